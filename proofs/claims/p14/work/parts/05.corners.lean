set_option maxRecDepth 20000 in
theorem ggX1_init_J7_fill_53178 : GoodIn wsX1_init wsJ7_fill_53178 := goodIn_r _ [20] (by decide +kernel) (by decide +kernel)
set_option maxRecDepth 20000 in
theorem gX1_init_J7_fill_53178 : GoodIn wsX1_init (va_wsS RX1 50 yJ7_fill_53178 wsJ7_fill_53178) := goodIn_app (goodIn_of _ (by decide +kernel)) ggX1_init_J7_fill_53178
theorem dX1_init_0 : decode cX1_init 0 = .ok (.aload_n 0, 1) := by decide +kernel
theorem dX1_init_1 : decode cX1_init 1 = .ok (.invokespecial 3, 3) := by decide +kernel
theorem dX1_init_4 : decode cX1_init 4 = .ok (.aload_n 0, 1) := by decide +kernel
theorem dX1_init_5 : decode cX1_init 5 = .ok (.bipush 48, 2) := by decide +kernel
theorem dX1_init_7 : decode cX1_init 7 = .ok (.newarray .int, 2) := by decide +kernel
theorem dX1_init_9 : decode cX1_init 9 = .ok (.putfield 9, 3) := by decide +kernel
theorem dX1_init_12 : decode cX1_init 12 = .ok (.aload_n 0, 1) := by decide +kernel
theorem dX1_init_13 : decode cX1_init 13 = .ok (.bipush 48, 2) := by decide +kernel
theorem dX1_init_15 : decode cX1_init 15 = .ok (.newarray .int, 2) := by decide +kernel
theorem dX1_init_17 : decode cX1_init 17 = .ok (.putfield 15, 3) := by decide +kernel
theorem dX1_init_20 : decode cX1_init 20 = .ok (.aload_n 0, 1) := by decide +kernel
theorem dX1_init_21 : decode cX1_init 21 = .ok (.bipush 48, 2) := by decide +kernel
theorem dX1_init_23 : decode cX1_init 23 = .ok (.newarray .int, 2) := by decide +kernel
theorem dX1_init_25 : decode cX1_init 25 = .ok (.putfield 18, 3) := by decide +kernel
theorem dX1_init_28 : decode cX1_init 28 = .ok (.aload_n 0, 1) := by decide +kernel
theorem dX1_init_29 : decode cX1_init 29 = .ok (.bipush 48, 2) := by decide +kernel
theorem dX1_init_31 : decode cX1_init 31 = .ok (.newarray .int, 2) := by decide +kernel
theorem dX1_init_33 : decode cX1_init 33 = .ok (.putfield 21, 3) := by decide +kernel
theorem dX1_init_36 : decode cX1_init 36 = .ok (.aload_n 0, 1) := by decide +kernel
theorem dX1_init_37 : decode cX1_init 37 = .ok (.bipush 48, 2) := by decide +kernel
theorem dX1_init_39 : decode cX1_init 39 = .ok (.newarray .int, 2) := by decide +kernel
theorem dX1_init_41 : decode cX1_init 41 = .ok (.putfield 24, 3) := by decide +kernel
theorem dX1_init_44 : decode cX1_init 44 = .ok (.aload_n 0, 1) := by decide +kernel
theorem dX1_init_45 : decode cX1_init 45 = .ok (.bipush 48, 2) := by decide +kernel
theorem dX1_init_47 : decode cX1_init 47 = .ok (.newarray .int, 2) := by decide +kernel
theorem dX1_init_49 : decode cX1_init 49 = .ok (.putfield 27, 3) := by decide +kernel
theorem dX1_init_52 : decode cX1_init 52 = .ok (.aload_n 0, 1) := by decide +kernel
theorem dX1_init_53 : decode cX1_init 53 = .ok (.bipush 24, 2) := by decide +kernel
theorem dX1_init_55 : decode cX1_init 55 = .ok (.newarray .int, 2) := by decide +kernel
theorem dX1_init_57 : decode cX1_init 57 = .ok (.putfield 30, 3) := by decide +kernel
theorem dX1_init_60 : decode cX1_init 60 = .ok (.aload_n 0, 1) := by decide +kernel
theorem dX1_init_61 : decode cX1_init 61 = .ok (.bipush 8, 2) := by decide +kernel
theorem dX1_init_63 : decode cX1_init 63 = .ok (.newarray .int, 2) := by decide +kernel
theorem dX1_init_65 : decode cX1_init 65 = .ok (.putfield 33, 3) := by decide +kernel
theorem dX1_init_68 : decode cX1_init 68 = .ok (.aload_n 0, 1) := by decide +kernel
theorem dX1_init_69 : decode cX1_init 69 = .ok (.bipush 11, 2) := by decide +kernel
theorem dX1_init_71 : decode cX1_init 71 = .ok (.newarray .int, 2) := by decide +kernel
theorem dX1_init_73 : decode cX1_init 73 = .ok (.putfield 36, 3) := by decide +kernel
theorem dX1_init_76 : decode cX1_init 76 = .ok (.aload_n 0, 1) := by decide +kernel
theorem dX1_init_77 : decode cX1_init 77 = .ok (.iconst 4, 1) := by decide +kernel
theorem dX1_init_78 : decode cX1_init 78 = .ok (.putfield 39, 3) := by decide +kernel
theorem dX1_init_81 : decode cX1_init 81 = .ok (.aload_n 0, 1) := by decide +kernel
theorem dX1_init_82 : decode cX1_init 82 = .ok (.bipush 50, 2) := by decide +kernel
theorem dX1_init_84 : decode cX1_init 84 = .ok (.putfield 43, 3) := by decide +kernel
theorem dX1_init_87 : decode cX1_init 87 = .ok (.aload_n 0, 1) := by decide +kernel
theorem dX1_init_88 : decode cX1_init 88 = .ok (.aload_n 1, 1) := by decide +kernel
theorem dX1_init_89 : decode cX1_init 89 = .ok (.putfield 46, 3) := by decide +kernel
theorem dX1_init_92 : decode cX1_init 92 = .ok (.aload_n 0, 1) := by decide +kernel
theorem dX1_init_93 : decode cX1_init 93 = .ok (.getfield 9, 3) := by decide +kernel
theorem dX1_init_96 : decode cX1_init 96 = .ok (.iconst (-1), 1) := by decide +kernel
theorem dX1_init_97 : decode cX1_init 97 = .ok (.invokestatic 50, 3) := by decide +kernel
theorem dX1_init_100 : decode cX1_init 100 = .ok (.aload_n 0, 1) := by decide +kernel
theorem dX1_init_101 : decode cX1_init 101 = .ok (.getfield 18, 3) := by decide +kernel
theorem dX1_init_104 : decode cX1_init 104 = .ok (.iconst (-1), 1) := by decide +kernel
theorem dX1_init_105 : decode cX1_init 105 = .ok (.invokestatic 50, 3) := by decide +kernel
theorem dX1_init_108 : decode cX1_init 108 = .ok (.aload_n 0, 1) := by decide +kernel
theorem dX1_init_109 : decode cX1_init 109 = .ok (.getfield 24, 3) := by decide +kernel
theorem dX1_init_112 : decode cX1_init 112 = .ok (.iconst (-1), 1) := by decide +kernel
theorem dX1_init_113 : decode cX1_init 113 = .ok (.invokestatic 50, 3) := by decide +kernel
theorem dX1_init_116 : decode cX1_init 116 = .ok (.aload_n 0, 1) := by decide +kernel
theorem dX1_init_117 : decode cX1_init 117 = .ok (.getfield 30, 3) := by decide +kernel
theorem dX1_init_120 : decode cX1_init 120 = .ok (.iconst (-1), 1) := by decide +kernel
theorem dX1_init_121 : decode cX1_init 121 = .ok (.invokestatic 50, 3) := by decide +kernel
theorem dX1_init_124 : decode cX1_init 124 = .ok (.aload_n 0, 1) := by decide +kernel
theorem dX1_init_125 : decode cX1_init 125 = .ok (.getfield 33, 3) := by decide +kernel
theorem dX1_init_128 : decode cX1_init 128 = .ok (.iconst (-1), 1) := by decide +kernel
theorem dX1_init_129 : decode cX1_init 129 = .ok (.invokestatic 50, 3) := by decide +kernel
theorem dX1_init_132 : decode cX1_init 132 = .ok (.aload_n 0, 1) := by decide +kernel
theorem dX1_init_133 : decode cX1_init 133 = .ok (.getfield 36, 3) := by decide +kernel
theorem dX1_init_136 : decode cX1_init 136 = .ok (.iconst 5, 1) := by decide +kernel
theorem dX1_init_137 : decode cX1_init 137 = .ok (.invokestatic 50, 3) := by decide +kernel
theorem dX1_init_140 : decode cX1_init 140 = .ok (.return_, 1) := by decide +kernel
set_option maxRecDepth 20000 in
theorem ggX1_muchAlike_X2_shared : GoodIn wsX1_muchAlike wsX2_shared := goodIn_r _ [7, 8, 9, 10, 11, 12, 13, 14, 15, 29] (by decide +kernel) (by decide +kernel)
set_option maxRecDepth 20000 in
theorem gX1_muchAlike_X2_shared : GoodIn wsX1_muchAlike (wsV RX1 56 RX2 yX2_shared wsX2_shared) := goodIn_app (goodIn_of _ (by decide +kernel)) ggX1_muchAlike_X2_shared
theorem dX1_muchAlike_0 : decode cX1_muchAlike 0 = .ok (.aload_n 0, 1) := by decide +kernel
theorem dX1_muchAlike_1 : decode cX1_muchAlike 1 = .ok (.getfield 46, 3) := by decide +kernel
theorem dX1_muchAlike_4 : decode cX1_muchAlike 4 = .ok (.iload_n 1, 1) := by decide +kernel
theorem dX1_muchAlike_5 : decode cX1_muchAlike 5 = .ok (.iload_n 2, 1) := by decide +kernel
theorem dX1_muchAlike_6 : decode cX1_muchAlike 6 = .ok (.invokevirtual 56, 3) := by decide +kernel
theorem dX1_muchAlike_9 : decode cX1_muchAlike 9 = .ok (.aload_n 0, 1) := by decide +kernel
theorem dX1_muchAlike_10 : decode cX1_muchAlike 10 = .ok (.getfield 39, 3) := by decide +kernel
theorem dX1_muchAlike_13 : decode cX1_muchAlike 13 = .ok (.if_icmp .lt 7, 3) := by decide +kernel
theorem dX1_muchAlike_16 : decode cX1_muchAlike 16 = .ok (.iconst 1, 1) := by decide +kernel
theorem dX1_muchAlike_17 : decode cX1_muchAlike 17 = .ok (.goto 4, 3) := by decide +kernel
theorem dX1_muchAlike_20 : decode cX1_muchAlike 20 = .ok (.iconst 0, 1) := by decide +kernel
theorem dX1_muchAlike_21 : decode cX1_muchAlike 21 = .ok (.ireturn, 1) := by decide +kernel
theorem dX1_cover_0 : decode cX1_cover 0 = .ok (.aload_n 0, 1) := by decide +kernel
theorem dX1_cover_1 : decode cX1_cover 1 = .ok (.getfield 9, 3) := by decide +kernel
theorem dX1_cover_4 : decode cX1_cover 4 = .ok (.iload_n 1, 1) := by decide +kernel
theorem dX1_cover_5 : decode cX1_cover 5 = .ok (.iaload, 1) := by decide +kernel
theorem dX1_cover_6 : decode cX1_cover 6 = .ok (.istore_n 3, 1) := by decide +kernel
theorem dX1_cover_7 : decode cX1_cover 7 = .ok (.iload_n 3, 1) := by decide +kernel
theorem dX1_cover_8 : decode cX1_cover 8 = .ok (.iconst (-1), 1) := by decide +kernel
theorem dX1_cover_9 : decode cX1_cover 9 = .ok (.if_icmp .eq 42, 3) := by decide +kernel
theorem dX1_cover_12 : decode cX1_cover 12 = .ok (.aload_n 0, 1) := by decide +kernel
theorem dX1_cover_13 : decode cX1_cover 13 = .ok (.getfield 30, 3) := by decide +kernel
theorem dX1_cover_16 : decode cX1_cover 16 = .ok (.iload_n 3, 1) := by decide +kernel
theorem dX1_cover_17 : decode cX1_cover 17 = .ok (.iconst (-1), 1) := by decide +kernel
theorem dX1_cover_18 : decode cX1_cover 18 = .ok (.iastore, 1) := by decide +kernel
theorem dX1_cover_19 : decode cX1_cover 19 = .ok (.aload_n 0, 1) := by decide +kernel
theorem dX1_cover_20 : decode cX1_cover 20 = .ok (.getfield 18, 3) := by decide +kernel
theorem dX1_cover_23 : decode cX1_cover 23 = .ok (.iload_n 1, 1) := by decide +kernel
theorem dX1_cover_24 : decode cX1_cover 24 = .ok (.aload_n 0, 1) := by decide +kernel
theorem dX1_cover_25 : decode cX1_cover 25 = .ok (.getfield 15, 3) := by decide +kernel
theorem dX1_cover_28 : decode cX1_cover 28 = .ok (.iload_n 1, 1) := by decide +kernel
theorem dX1_cover_29 : decode cX1_cover 29 = .ok (.iaload, 1) := by decide +kernel
theorem dX1_cover_30 : decode cX1_cover 30 = .ok (.ifCond .le 7, 3) := by decide +kernel
theorem dX1_cover_33 : decode cX1_cover 33 = .ok (.iload_n 3, 1) := by decide +kernel
theorem dX1_cover_34 : decode cX1_cover 34 = .ok (.goto 4, 3) := by decide +kernel
theorem dX1_cover_37 : decode cX1_cover 37 = .ok (.iconst (-1), 1) := by decide +kernel
theorem dX1_cover_38 : decode cX1_cover 38 = .ok (.iastore, 1) := by decide +kernel
theorem dX1_cover_39 : decode cX1_cover 39 = .ok (.aload_n 0, 1) := by decide +kernel
theorem dX1_cover_40 : decode cX1_cover 40 = .ok (.getfield 21, 3) := by decide +kernel
theorem dX1_cover_43 : decode cX1_cover 43 = .ok (.iload_n 1, 1) := by decide +kernel
theorem dX1_cover_44 : decode cX1_cover 44 = .ok (.aload_n 0, 1) := by decide +kernel
theorem dX1_cover_45 : decode cX1_cover 45 = .ok (.getfield 15, 3) := by decide +kernel
theorem dX1_cover_48 : decode cX1_cover 48 = .ok (.iload_n 1, 1) := by decide +kernel
theorem dX1_cover_49 : decode cX1_cover 49 = .ok (.iaload, 1) := by decide +kernel
theorem dX1_cover_50 : decode cX1_cover 50 = .ok (.iastore, 1) := by decide +kernel
theorem dX1_cover_51 : decode cX1_cover 51 = .ok (.aload_n 0, 1) := by decide +kernel
theorem dX1_cover_52 : decode cX1_cover 52 = .ok (.getfield 9, 3) := by decide +kernel
theorem dX1_cover_55 : decode cX1_cover 55 = .ok (.iload_n 1, 1) := by decide +kernel
theorem dX1_cover_56 : decode cX1_cover 56 = .ok (.iload_n 2, 1) := by decide +kernel
theorem dX1_cover_57 : decode cX1_cover 57 = .ok (.iastore, 1) := by decide +kernel
theorem dX1_cover_58 : decode cX1_cover 58 = .ok (.aload_n 0, 1) := by decide +kernel
theorem dX1_cover_59 : decode cX1_cover 59 = .ok (.getfield 15, 3) := by decide +kernel
theorem dX1_cover_62 : decode cX1_cover 62 = .ok (.iload_n 1, 1) := by decide +kernel
theorem dX1_cover_63 : decode cX1_cover 63 = .ok (.bipush 100, 2) := by decide +kernel
theorem dX1_cover_65 : decode cX1_cover 65 = .ok (.iastore, 1) := by decide +kernel
theorem dX1_cover_66 : decode cX1_cover 66 = .ok (.aload_n 0, 1) := by decide +kernel
theorem dX1_cover_67 : decode cX1_cover 67 = .ok (.getfield 24, 3) := by decide +kernel
theorem dX1_cover_70 : decode cX1_cover 70 = .ok (.iload_n 1, 1) := by decide +kernel
theorem dX1_cover_71 : decode cX1_cover 71 = .ok (.aload_n 0, 1) := by decide +kernel
theorem dX1_cover_72 : decode cX1_cover 72 = .ok (.getfield 62, 3) := by decide +kernel
theorem dX1_cover_75 : decode cX1_cover 75 = .ok (.iastore, 1) := by decide +kernel
theorem dX1_cover_76 : decode cX1_cover 76 = .ok (.aload_n 0, 1) := by decide +kernel
theorem dX1_cover_77 : decode cX1_cover 77 = .ok (.getfield 30, 3) := by decide +kernel
theorem dX1_cover_80 : decode cX1_cover 80 = .ok (.iload_n 2, 1) := by decide +kernel
theorem dX1_cover_81 : decode cX1_cover 81 = .ok (.iload_n 1, 1) := by decide +kernel
theorem dX1_cover_82 : decode cX1_cover 82 = .ok (.iastore, 1) := by decide +kernel
theorem dX1_cover_83 : decode cX1_cover 83 = .ok (.return_, 1) := by decide +kernel
theorem dX1_takeOff_0 : decode cX1_takeOff 0 = .ok (.aload_n 0, 1) := by decide +kernel
theorem dX1_takeOff_1 : decode cX1_takeOff 1 = .ok (.getfield 9, 3) := by decide +kernel
theorem dX1_takeOff_4 : decode cX1_takeOff 4 = .ok (.iload_n 1, 1) := by decide +kernel
theorem dX1_takeOff_5 : decode cX1_takeOff 5 = .ok (.iaload, 1) := by decide +kernel
theorem dX1_takeOff_6 : decode cX1_takeOff 6 = .ok (.istore_n 2, 1) := by decide +kernel
theorem dX1_takeOff_7 : decode cX1_takeOff 7 = .ok (.iload_n 2, 1) := by decide +kernel
theorem dX1_takeOff_8 : decode cX1_takeOff 8 = .ok (.iconst (-1), 1) := by decide +kernel
theorem dX1_takeOff_9 : decode cX1_takeOff 9 = .ok (.if_icmp .eq 10, 3) := by decide +kernel
theorem dX1_takeOff_12 : decode cX1_takeOff 12 = .ok (.aload_n 0, 1) := by decide +kernel
theorem dX1_takeOff_13 : decode cX1_takeOff 13 = .ok (.getfield 30, 3) := by decide +kernel
theorem dX1_takeOff_16 : decode cX1_takeOff 16 = .ok (.iload_n 2, 1) := by decide +kernel
theorem dX1_takeOff_17 : decode cX1_takeOff 17 = .ok (.iconst (-1), 1) := by decide +kernel
theorem dX1_takeOff_18 : decode cX1_takeOff 18 = .ok (.iastore, 1) := by decide +kernel
theorem dX1_takeOff_19 : decode cX1_takeOff 19 = .ok (.aload_n 0, 1) := by decide +kernel
theorem dX1_takeOff_20 : decode cX1_takeOff 20 = .ok (.getfield 9, 3) := by decide +kernel
theorem dX1_takeOff_23 : decode cX1_takeOff 23 = .ok (.iload_n 1, 1) := by decide +kernel
theorem dX1_takeOff_24 : decode cX1_takeOff 24 = .ok (.iconst (-1), 1) := by decide +kernel
theorem dX1_takeOff_25 : decode cX1_takeOff 25 = .ok (.iastore, 1) := by decide +kernel
theorem dX1_takeOff_26 : decode cX1_takeOff 26 = .ok (.aload_n 0, 1) := by decide +kernel
theorem dX1_takeOff_27 : decode cX1_takeOff 27 = .ok (.getfield 18, 3) := by decide +kernel
theorem dX1_takeOff_30 : decode cX1_takeOff 30 = .ok (.iload_n 1, 1) := by decide +kernel
theorem dX1_takeOff_31 : decode cX1_takeOff 31 = .ok (.iconst (-1), 1) := by decide +kernel
theorem dX1_takeOff_32 : decode cX1_takeOff 32 = .ok (.iastore, 1) := by decide +kernel
theorem dX1_takeOff_33 : decode cX1_takeOff 33 = .ok (.return_, 1) := by decide +kernel
set_option maxRecDepth 20000 in
theorem ggX1_passDays_X1_countCrowds : GoodIn wsX1_passDays wsX1_countCrowds := goodIn_r _ [8, 9, 10, 11, 12, 7, 13, 1, 14, 15, 16, 17, 18, 19, 20, 21, 22, 23, 24, 25, 26, 27, 28, 29, 30, 31, 32, 57, 58, 59, 60, 61, 62, 63, 64, 65, 66, 67, 68, 69, 70] (by decide +kernel) (by decide +kernel)
set_option maxRecDepth 20000 in
theorem gX1_passDays_X1_countCrowds : GoodIn wsX1_passDays (wsV RX1 65 RX1 yX1_countCrowds wsX1_countCrowds) := goodIn_app (goodIn_of _ (by decide +kernel)) ggX1_passDays_X1_countCrowds
set_option maxRecDepth 20000 in
theorem ggX1_passDays_X1_strengthBehind : GoodIn wsX1_passDays wsX1_strengthBehind := goodIn_r _ [36, 2, 9, 37, 38, 39, 7, 40, 41, 42, 43, 44, 45, 46, 47, 48, 49, 50, 57, 58, 59, 60, 61, 62, 63, 64, 65, 66, 67, 68, 69] (by decide +kernel) (by decide +kernel)
set_option maxRecDepth 20000 in
theorem gX1_passDays_X1_strengthBehind : GoodIn wsX1_passDays (wsV RX1 68 RX1 yX1_strengthBehind wsX1_strengthBehind) := goodIn_app (goodIn_of _ (by decide +kernel)) ggX1_passDays_X1_strengthBehind
set_option maxRecDepth 20000 in
theorem ggX1_passDays_X1_fadeGhost : GoodIn wsX1_passDays wsX1_fadeGhost := goodIn_r _ [54, 55, 56, 42, 43, 44, 7, 45, 46, 47, 48, 49, 50, 57, 58, 59, 60, 61, 62, 63, 64, 65, 66, 67, 68, 69] (by decide +kernel) (by decide +kernel)
set_option maxRecDepth 20000 in
theorem gX1_passDays_X1_fadeGhost : GoodIn wsX1_passDays (wsV RX1 72 RX1 yX1_fadeGhost wsX1_fadeGhost) := goodIn_app (goodIn_of _ (by decide +kernel)) ggX1_passDays_X1_fadeGhost
theorem dX1_passDays_0 : decode cX1_passDays 0 = .ok (.aload_n 0, 1) := by decide +kernel
theorem dX1_passDays_1 : decode cX1_passDays 1 = .ok (.invokevirtual 65, 3) := by decide +kernel
theorem dX1_passDays_4 : decode cX1_passDays 4 = .ok (.iconst 0, 1) := by decide +kernel
theorem dX1_passDays_5 : decode cX1_passDays 5 = .ok (.istore_n 2, 1) := by decide +kernel
theorem dX1_passDays_6 : decode cX1_passDays 6 = .ok (.iload_n 2, 1) := by decide +kernel
theorem dX1_passDays_7 : decode cX1_passDays 7 = .ok (.bipush 48, 2) := by decide +kernel
theorem dX1_passDays_9 : decode cX1_passDays 9 = .ok (.if_icmp .ge 38, 3) := by decide +kernel
theorem dX1_passDays_12 : decode cX1_passDays 12 = .ok (.aload_n 0, 1) := by decide +kernel
theorem dX1_passDays_13 : decode cX1_passDays 13 = .ok (.getfield 9, 3) := by decide +kernel
theorem dX1_passDays_16 : decode cX1_passDays 16 = .ok (.iload_n 2, 1) := by decide +kernel
theorem dX1_passDays_17 : decode cX1_passDays 17 = .ok (.iaload, 1) := by decide +kernel
theorem dX1_passDays_18 : decode cX1_passDays 18 = .ok (.iconst (-1), 1) := by decide +kernel
theorem dX1_passDays_19 : decode cX1_passDays 19 = .ok (.if_icmp .eq 16, 3) := by decide +kernel
theorem dX1_passDays_22 : decode cX1_passDays 22 = .ok (.aload_n 0, 1) := by decide +kernel
theorem dX1_passDays_23 : decode cX1_passDays 23 = .ok (.getfield 15, 3) := by decide +kernel
theorem dX1_passDays_26 : decode cX1_passDays 26 = .ok (.iload_n 2, 1) := by decide +kernel
theorem dX1_passDays_27 : decode cX1_passDays 27 = .ok (.aload_n 0, 1) := by decide +kernel
theorem dX1_passDays_28 : decode cX1_passDays 28 = .ok (.iload_n 2, 1) := by decide +kernel
theorem dX1_passDays_29 : decode cX1_passDays 29 = .ok (.iload_n 1, 1) := by decide +kernel
theorem dX1_passDays_30 : decode cX1_passDays 30 = .ok (.iconst 0, 1) := by decide +kernel
theorem dX1_passDays_31 : decode cX1_passDays 31 = .ok (.invokevirtual 68, 3) := by decide +kernel
theorem dX1_passDays_34 : decode cX1_passDays 34 = .ok (.iastore, 1) := by decide +kernel
theorem dX1_passDays_35 : decode cX1_passDays 35 = .ok (.aload_n 0, 1) := by decide +kernel
theorem dX1_passDays_36 : decode cX1_passDays 36 = .ok (.iload_n 2, 1) := by decide +kernel
theorem dX1_passDays_37 : decode cX1_passDays 37 = .ok (.iload_n 1, 1) := by decide +kernel
theorem dX1_passDays_38 : decode cX1_passDays 38 = .ok (.invokevirtual 72, 3) := by decide +kernel
theorem dX1_passDays_41 : decode cX1_passDays 41 = .ok (.iinc 2 1, 3) := by decide +kernel
theorem dX1_passDays_44 : decode cX1_passDays 44 = .ok (.goto (-38), 3) := by decide +kernel
theorem dX1_passDays_47 : decode cX1_passDays 47 = .ok (.aload_n 0, 1) := by decide +kernel
theorem dX1_passDays_48 : decode cX1_passDays 48 = .ok (.dup, 1) := by decide +kernel
theorem dX1_passDays_49 : decode cX1_passDays 49 = .ok (.getfield 62, 3) := by decide +kernel
theorem dX1_passDays_52 : decode cX1_passDays 52 = .ok (.iload_n 1, 1) := by decide +kernel
theorem dX1_passDays_53 : decode cX1_passDays 53 = .ok (.iadd, 1) := by decide +kernel
theorem dX1_passDays_54 : decode cX1_passDays 54 = .ok (.putfield 62, 3) := by decide +kernel
theorem dX1_passDays_57 : decode cX1_passDays 57 = .ok (.return_, 1) := by decide +kernel
set_option maxRecDepth 20000 in
theorem ggX1_fadeGhost_X1_fallen : GoodIn wsX1_fadeGhost wsX1_fallen := goodIn_r _ [7, 8, 9, 10, 11, 12, 13, 14, 15, 16, 17, 18, 19, 20, 21, 22, 23, 24, 25] (by decide +kernel) (by decide +kernel)
set_option maxRecDepth 20000 in
theorem gX1_fadeGhost_X1_fallen : GoodIn wsX1_fadeGhost (wsV RX1 76 RX1 yX1_fallen wsX1_fallen) := goodIn_app (goodIn_of _ (by decide +kernel)) ggX1_fadeGhost_X1_fallen
theorem dX1_fadeGhost_0 : decode cX1_fadeGhost 0 = .ok (.iconst 0, 1) := by decide +kernel
theorem dX1_fadeGhost_1 : decode cX1_fadeGhost 1 = .ok (.istore_n 3, 1) := by decide +kernel
theorem dX1_fadeGhost_2 : decode cX1_fadeGhost 2 = .ok (.iload_n 3, 1) := by decide +kernel
theorem dX1_fadeGhost_3 : decode cX1_fadeGhost 3 = .ok (.iload_n 2, 1) := by decide +kernel
theorem dX1_fadeGhost_4 : decode cX1_fadeGhost 4 = .ok (.if_icmp .ge 52, 3) := by decide +kernel
theorem dX1_fadeGhost_7 : decode cX1_fadeGhost 7 = .ok (.aload_n 0, 1) := by decide +kernel
theorem dX1_fadeGhost_8 : decode cX1_fadeGhost 8 = .ok (.getfield 18, 3) := by decide +kernel
theorem dX1_fadeGhost_11 : decode cX1_fadeGhost 11 = .ok (.iload_n 1, 1) := by decide +kernel
theorem dX1_fadeGhost_12 : decode cX1_fadeGhost 12 = .ok (.iaload, 1) := by decide +kernel
theorem dX1_fadeGhost_13 : decode cX1_fadeGhost 13 = .ok (.iconst (-1), 1) := by decide +kernel
theorem dX1_fadeGhost_14 : decode cX1_fadeGhost 14 = .ok (.if_icmp .eq 42, 3) := by decide +kernel
theorem dX1_fadeGhost_17 : decode cX1_fadeGhost 17 = .ok (.aload_n 0, 1) := by decide +kernel
theorem dX1_fadeGhost_18 : decode cX1_fadeGhost 18 = .ok (.getfield 21, 3) := by decide +kernel
theorem dX1_fadeGhost_21 : decode cX1_fadeGhost 21 = .ok (.iload_n 1, 1) := by decide +kernel
theorem dX1_fadeGhost_22 : decode cX1_fadeGhost 22 = .ok (.aload_n 0, 1) := by decide +kernel
theorem dX1_fadeGhost_23 : decode cX1_fadeGhost 23 = .ok (.aload_n 0, 1) := by decide +kernel
theorem dX1_fadeGhost_24 : decode cX1_fadeGhost 24 = .ok (.getfield 21, 3) := by decide +kernel
theorem dX1_fadeGhost_27 : decode cX1_fadeGhost 27 = .ok (.iload_n 1, 1) := by decide +kernel
theorem dX1_fadeGhost_28 : decode cX1_fadeGhost 28 = .ok (.iaload, 1) := by decide +kernel
theorem dX1_fadeGhost_29 : decode cX1_fadeGhost 29 = .ok (.iconst 0, 1) := by decide +kernel
theorem dX1_fadeGhost_30 : decode cX1_fadeGhost 30 = .ok (.invokevirtual 76, 3) := by decide +kernel
theorem dX1_fadeGhost_33 : decode cX1_fadeGhost 33 = .ok (.iastore, 1) := by decide +kernel
theorem dX1_fadeGhost_34 : decode cX1_fadeGhost 34 = .ok (.aload_n 0, 1) := by decide +kernel
theorem dX1_fadeGhost_35 : decode cX1_fadeGhost 35 = .ok (.getfield 21, 3) := by decide +kernel
theorem dX1_fadeGhost_38 : decode cX1_fadeGhost 38 = .ok (.iload_n 1, 1) := by decide +kernel
theorem dX1_fadeGhost_39 : decode cX1_fadeGhost 39 = .ok (.iaload, 1) := by decide +kernel
theorem dX1_fadeGhost_40 : decode cX1_fadeGhost 40 = .ok (.ifCond .ne 10, 3) := by decide +kernel
theorem dX1_fadeGhost_43 : decode cX1_fadeGhost 43 = .ok (.aload_n 0, 1) := by decide +kernel
theorem dX1_fadeGhost_44 : decode cX1_fadeGhost 44 = .ok (.getfield 18, 3) := by decide +kernel
theorem dX1_fadeGhost_47 : decode cX1_fadeGhost 47 = .ok (.iload_n 1, 1) := by decide +kernel
theorem dX1_fadeGhost_48 : decode cX1_fadeGhost 48 = .ok (.iconst (-1), 1) := by decide +kernel
theorem dX1_fadeGhost_49 : decode cX1_fadeGhost 49 = .ok (.iastore, 1) := by decide +kernel
theorem dX1_fadeGhost_50 : decode cX1_fadeGhost 50 = .ok (.iinc 3 1, 3) := by decide +kernel
theorem dX1_fadeGhost_53 : decode cX1_fadeGhost 53 = .ok (.goto (-51), 3) := by decide +kernel
theorem dX1_fadeGhost_56 : decode cX1_fadeGhost 56 = .ok (.return_, 1) := by decide +kernel
set_option maxRecDepth 20000 in
theorem ggX1_countCrowds_X1_crowds : GoodIn wsX1_countCrowds wsX1_crowds := goodIn_r _ [6, 7, 8, 9, 10, 5, 11, 12, 13, 14, 15, 16, 17, 18, 19, 20, 21, 22, 23, 24, 25, 26, 27, 28, 29, 30, 31, 32, 33, 34, 35, 36, 37, 38, 39, 40] (by decide +kernel) (by decide +kernel)
set_option maxRecDepth 20000 in
theorem gX1_countCrowds_X1_crowds : GoodIn wsX1_countCrowds (wsV RX1 79 RX1 yX1_crowds wsX1_crowds) := goodIn_app (goodIn_of _ (by decide +kernel)) ggX1_countCrowds_X1_crowds
theorem dX1_countCrowds_0 : decode cX1_countCrowds 0 = .ok (.iconst 0, 1) := by decide +kernel
theorem dX1_countCrowds_1 : decode cX1_countCrowds 1 = .ok (.istore_n 1, 1) := by decide +kernel
theorem dX1_countCrowds_2 : decode cX1_countCrowds 2 = .ok (.iload_n 1, 1) := by decide +kernel
theorem dX1_countCrowds_3 : decode cX1_countCrowds 3 = .ok (.bipush 48, 2) := by decide +kernel
theorem dX1_countCrowds_5 : decode cX1_countCrowds 5 = .ok (.if_icmp .ge 58, 3) := by decide +kernel
theorem dX1_countCrowds_8 : decode cX1_countCrowds 8 = .ok (.aload_n 0, 1) := by decide +kernel
theorem dX1_countCrowds_9 : decode cX1_countCrowds 9 = .ok (.getfield 27, 3) := by decide +kernel
theorem dX1_countCrowds_12 : decode cX1_countCrowds 12 = .ok (.iload_n 1, 1) := by decide +kernel
theorem dX1_countCrowds_13 : decode cX1_countCrowds 13 = .ok (.iconst 0, 1) := by decide +kernel
theorem dX1_countCrowds_14 : decode cX1_countCrowds 14 = .ok (.iastore, 1) := by decide +kernel
theorem dX1_countCrowds_15 : decode cX1_countCrowds 15 = .ok (.iload_n 1, 1) := by decide +kernel
theorem dX1_countCrowds_16 : decode cX1_countCrowds 16 = .ok (.iload_n 1, 1) := by decide +kernel
theorem dX1_countCrowds_17 : decode cX1_countCrowds 17 = .ok (.bipush 6, 2) := by decide +kernel
theorem dX1_countCrowds_19 : decode cX1_countCrowds 19 = .ok (.irem, 1) := by decide +kernel
theorem dX1_countCrowds_20 : decode cX1_countCrowds 20 = .ok (.isub, 1) := by decide +kernel
theorem dX1_countCrowds_21 : decode cX1_countCrowds 21 = .ok (.istore_n 2, 1) := by decide +kernel
theorem dX1_countCrowds_22 : decode cX1_countCrowds 22 = .ok (.iload_n 2, 1) := by decide +kernel
theorem dX1_countCrowds_23 : decode cX1_countCrowds 23 = .ok (.istore_n 3, 1) := by decide +kernel
theorem dX1_countCrowds_24 : decode cX1_countCrowds 24 = .ok (.iload_n 3, 1) := by decide +kernel
theorem dX1_countCrowds_25 : decode cX1_countCrowds 25 = .ok (.iload_n 2, 1) := by decide +kernel
theorem dX1_countCrowds_26 : decode cX1_countCrowds 26 = .ok (.bipush 6, 2) := by decide +kernel
theorem dX1_countCrowds_28 : decode cX1_countCrowds 28 = .ok (.iadd, 1) := by decide +kernel
theorem dX1_countCrowds_29 : decode cX1_countCrowds 29 = .ok (.if_icmp .ge 28, 3) := by decide +kernel
theorem dX1_countCrowds_32 : decode cX1_countCrowds 32 = .ok (.aload_n 0, 1) := by decide +kernel
theorem dX1_countCrowds_33 : decode cX1_countCrowds 33 = .ok (.iload_n 3, 1) := by decide +kernel
theorem dX1_countCrowds_34 : decode cX1_countCrowds 34 = .ok (.iload_n 1, 1) := by decide +kernel
theorem dX1_countCrowds_35 : decode cX1_countCrowds 35 = .ok (.invokevirtual 79, 3) := by decide +kernel
theorem dX1_countCrowds_38 : decode cX1_countCrowds 38 = .ok (.ifCond .eq 13, 3) := by decide +kernel
theorem dX1_countCrowds_41 : decode cX1_countCrowds 41 = .ok (.aload_n 0, 1) := by decide +kernel
theorem dX1_countCrowds_42 : decode cX1_countCrowds 42 = .ok (.getfield 27, 3) := by decide +kernel
theorem dX1_countCrowds_45 : decode cX1_countCrowds 45 = .ok (.iload_n 1, 1) := by decide +kernel
theorem dX1_countCrowds_46 : decode cX1_countCrowds 46 = .ok (.dup2, 1) := by decide +kernel
theorem dX1_countCrowds_47 : decode cX1_countCrowds 47 = .ok (.iaload, 1) := by decide +kernel
theorem dX1_countCrowds_48 : decode cX1_countCrowds 48 = .ok (.iconst 1, 1) := by decide +kernel
theorem dX1_countCrowds_49 : decode cX1_countCrowds 49 = .ok (.iadd, 1) := by decide +kernel
theorem dX1_countCrowds_50 : decode cX1_countCrowds 50 = .ok (.iastore, 1) := by decide +kernel
theorem dX1_countCrowds_51 : decode cX1_countCrowds 51 = .ok (.iinc 3 1, 3) := by decide +kernel
theorem dX1_countCrowds_54 : decode cX1_countCrowds 54 = .ok (.goto (-30), 3) := by decide +kernel
theorem dX1_countCrowds_57 : decode cX1_countCrowds 57 = .ok (.iinc 1 1, 3) := by decide +kernel
theorem dX1_countCrowds_60 : decode cX1_countCrowds 60 = .ok (.goto (-58), 3) := by decide +kernel
theorem dX1_countCrowds_63 : decode cX1_countCrowds 63 = .ok (.return_, 1) := by decide +kernel
set_option maxRecDepth 20000 in
theorem ggX1_crowds_X1_muchAlike : GoodIn wsX1_crowds wsX1_muchAlike := goodIn_r _ [6, 7, 8, 9, 10, 11, 12, 13, 14, 15, 16, 17, 18, 19, 20, 21, 22, 23, 24, 25, 26, 27, 28, 29, 30, 31, 32, 33, 34, 35] (by decide +kernel) (by decide +kernel)
set_option maxRecDepth 20000 in
theorem gX1_crowds_X1_muchAlike : GoodIn wsX1_crowds (wsV RX1 83 RX1 yX1_muchAlike wsX1_muchAlike) := goodIn_app (goodIn_of _ (by decide +kernel)) ggX1_crowds_X1_muchAlike
theorem dX1_crowds_0 : decode cX1_crowds 0 = .ok (.iload_n 1, 1) := by decide +kernel
theorem dX1_crowds_1 : decode cX1_crowds 1 = .ok (.iload_n 2, 1) := by decide +kernel
theorem dX1_crowds_2 : decode cX1_crowds 2 = .ok (.if_icmp .eq 46, 3) := by decide +kernel
theorem dX1_crowds_5 : decode cX1_crowds 5 = .ok (.aload_n 0, 1) := by decide +kernel
theorem dX1_crowds_6 : decode cX1_crowds 6 = .ok (.getfield 9, 3) := by decide +kernel
theorem dX1_crowds_9 : decode cX1_crowds 9 = .ok (.iload_n 1, 1) := by decide +kernel
theorem dX1_crowds_10 : decode cX1_crowds 10 = .ok (.iaload, 1) := by decide +kernel
theorem dX1_crowds_11 : decode cX1_crowds 11 = .ok (.iconst (-1), 1) := by decide +kernel
theorem dX1_crowds_12 : decode cX1_crowds 12 = .ok (.if_icmp .eq 36, 3) := by decide +kernel
theorem dX1_crowds_15 : decode cX1_crowds 15 = .ok (.aload_n 0, 1) := by decide +kernel
theorem dX1_crowds_16 : decode cX1_crowds 16 = .ok (.getfield 9, 3) := by decide +kernel
theorem dX1_crowds_19 : decode cX1_crowds 19 = .ok (.iload_n 2, 1) := by decide +kernel
theorem dX1_crowds_20 : decode cX1_crowds 20 = .ok (.iaload, 1) := by decide +kernel
theorem dX1_crowds_21 : decode cX1_crowds 21 = .ok (.iconst (-1), 1) := by decide +kernel
theorem dX1_crowds_22 : decode cX1_crowds 22 = .ok (.if_icmp .eq 26, 3) := by decide +kernel
theorem dX1_crowds_25 : decode cX1_crowds 25 = .ok (.aload_n 0, 1) := by decide +kernel
theorem dX1_crowds_26 : decode cX1_crowds 26 = .ok (.aload_n 0, 1) := by decide +kernel
theorem dX1_crowds_27 : decode cX1_crowds 27 = .ok (.getfield 9, 3) := by decide +kernel
theorem dX1_crowds_30 : decode cX1_crowds 30 = .ok (.iload_n 1, 1) := by decide +kernel
theorem dX1_crowds_31 : decode cX1_crowds 31 = .ok (.iaload, 1) := by decide +kernel
theorem dX1_crowds_32 : decode cX1_crowds 32 = .ok (.aload_n 0, 1) := by decide +kernel
theorem dX1_crowds_33 : decode cX1_crowds 33 = .ok (.getfield 9, 3) := by decide +kernel
theorem dX1_crowds_36 : decode cX1_crowds 36 = .ok (.iload_n 2, 1) := by decide +kernel
theorem dX1_crowds_37 : decode cX1_crowds 37 = .ok (.iaload, 1) := by decide +kernel
theorem dX1_crowds_38 : decode cX1_crowds 38 = .ok (.invokevirtual 83, 3) := by decide +kernel
theorem dX1_crowds_41 : decode cX1_crowds 41 = .ok (.ifCond .eq 7, 3) := by decide +kernel
theorem dX1_crowds_44 : decode cX1_crowds 44 = .ok (.iconst 1, 1) := by decide +kernel
theorem dX1_crowds_45 : decode cX1_crowds 45 = .ok (.goto 4, 3) := by decide +kernel
theorem dX1_crowds_48 : decode cX1_crowds 48 = .ok (.iconst 0, 1) := by decide +kernel
theorem dX1_crowds_49 : decode cX1_crowds 49 = .ok (.ireturn, 1) := by decide +kernel
set_option maxRecDepth 20000 in
theorem ggX1_strengthBehind_X1_gainOf : GoodIn wsX1_strengthBehind wsX1_gainOf := goodIn_r _ [7, 8, 18, 19, 20, 21, 22, 23, 24, 25, 26, 27, 28, 29, 30] (by decide +kernel) (by decide +kernel)
set_option maxRecDepth 20000 in
theorem gX1_strengthBehind_X1_gainOf : GoodIn wsX1_strengthBehind (wsV RX1 86 RX1 yX1_gainOf wsX1_gainOf) := goodIn_app (goodIn_of _ (by decide +kernel)) ggX1_strengthBehind_X1_gainOf
set_option maxRecDepth 20000 in
theorem ggX1_strengthBehind_X1_fallen : GoodIn wsX1_strengthBehind wsX1_fallen := goodIn_r _ [12, 13, 14, 15, 16, 17, 18, 19, 20, 21, 22, 23, 24, 25, 26, 27, 28, 29, 30] (by decide +kernel) (by decide +kernel)
set_option maxRecDepth 20000 in
theorem gX1_strengthBehind_X1_fallen : GoodIn wsX1_strengthBehind (wsV RX1 76 RX1 yX1_fallen wsX1_fallen) := goodIn_app (goodIn_of _ (by decide +kernel)) ggX1_strengthBehind_X1_fallen
theorem dX1_strengthBehind_0 : decode cX1_strengthBehind 0 = .ok (.aload_n 0, 1) := by decide +kernel
theorem dX1_strengthBehind_1 : decode cX1_strengthBehind 1 = .ok (.getfield 15, 3) := by decide +kernel
theorem dX1_strengthBehind_4 : decode cX1_strengthBehind 4 = .ok (.iload_n 1, 1) := by decide +kernel
theorem dX1_strengthBehind_5 : decode cX1_strengthBehind 5 = .ok (.iaload, 1) := by decide +kernel
theorem dX1_strengthBehind_6 : decode cX1_strengthBehind 6 = .ok (.istore 4, 2) := by decide +kernel
theorem dX1_strengthBehind_8 : decode cX1_strengthBehind 8 = .ok (.iconst 0, 1) := by decide +kernel
theorem dX1_strengthBehind_9 : decode cX1_strengthBehind 9 = .ok (.istore 5, 2) := by decide +kernel
theorem dX1_strengthBehind_11 : decode cX1_strengthBehind 11 = .ok (.iload 5, 2) := by decide +kernel
theorem dX1_strengthBehind_13 : decode cX1_strengthBehind 13 = .ok (.iload_n 2, 1) := by decide +kernel
theorem dX1_strengthBehind_14 : decode cX1_strengthBehind 14 = .ok (.if_icmp .ge 44, 3) := by decide +kernel
theorem dX1_strengthBehind_17 : decode cX1_strengthBehind 17 = .ok (.iload_n 3, 1) := by decide +kernel
theorem dX1_strengthBehind_18 : decode cX1_strengthBehind 18 = .ok (.iload 5, 2) := by decide +kernel
theorem dX1_strengthBehind_20 : decode cX1_strengthBehind 20 = .ok (.ishr, 1) := by decide +kernel
theorem dX1_strengthBehind_21 : decode cX1_strengthBehind 21 = .ok (.iconst 1, 1) := by decide +kernel
theorem dX1_strengthBehind_22 : decode cX1_strengthBehind 22 = .ok (.iand, 1) := by decide +kernel
theorem dX1_strengthBehind_23 : decode cX1_strengthBehind 23 = .ok (.iconst 1, 1) := by decide +kernel
theorem dX1_strengthBehind_24 : decode cX1_strengthBehind 24 = .ok (.if_icmp .ne 14, 3) := by decide +kernel
theorem dX1_strengthBehind_27 : decode cX1_strengthBehind 27 = .ok (.iload 4, 2) := by decide +kernel
theorem dX1_strengthBehind_29 : decode cX1_strengthBehind 29 = .ok (.aload_n 0, 1) := by decide +kernel
theorem dX1_strengthBehind_30 : decode cX1_strengthBehind 30 = .ok (.iload 4, 2) := by decide +kernel
theorem dX1_strengthBehind_32 : decode cX1_strengthBehind 32 = .ok (.invokevirtual 86, 3) := by decide +kernel
theorem dX1_strengthBehind_35 : decode cX1_strengthBehind 35 = .ok (.iadd, 1) := by decide +kernel
theorem dX1_strengthBehind_36 : decode cX1_strengthBehind 36 = .ok (.istore 4, 2) := by decide +kernel
theorem dX1_strengthBehind_38 : decode cX1_strengthBehind 38 = .ok (.aload_n 0, 1) := by decide +kernel
theorem dX1_strengthBehind_39 : decode cX1_strengthBehind 39 = .ok (.iload 4, 2) := by decide +kernel
theorem dX1_strengthBehind_41 : decode cX1_strengthBehind 41 = .ok (.aload_n 0, 1) := by decide +kernel
theorem dX1_strengthBehind_42 : decode cX1_strengthBehind 42 = .ok (.getfield 27, 3) := by decide +kernel
theorem dX1_strengthBehind_45 : decode cX1_strengthBehind 45 = .ok (.iload_n 1, 1) := by decide +kernel
theorem dX1_strengthBehind_46 : decode cX1_strengthBehind 46 = .ok (.iaload, 1) := by decide +kernel
theorem dX1_strengthBehind_47 : decode cX1_strengthBehind 47 = .ok (.invokevirtual 76, 3) := by decide +kernel
theorem dX1_strengthBehind_50 : decode cX1_strengthBehind 50 = .ok (.istore 4, 2) := by decide +kernel
theorem dX1_strengthBehind_52 : decode cX1_strengthBehind 52 = .ok (.iinc 5 1, 3) := by decide +kernel
theorem dX1_strengthBehind_55 : decode cX1_strengthBehind 55 = .ok (.goto (-44), 3) := by decide +kernel
theorem dX1_strengthBehind_58 : decode cX1_strengthBehind 58 = .ok (.iload 4, 2) := by decide +kernel
theorem dX1_strengthBehind_60 : decode cX1_strengthBehind 60 = .ok (.ireturn, 1) := by decide +kernel
theorem dX1_fallen_0 : decode cX1_fallen 0 = .ok (.iconst 0, 1) := by decide +kernel
theorem dX1_fallen_1 : decode cX1_fallen 1 = .ok (.iload_n 1, 1) := by decide +kernel
theorem dX1_fallen_2 : decode cX1_fallen 2 = .ok (.aload_n 0, 1) := by decide +kernel
theorem dX1_fallen_3 : decode cX1_fallen 3 = .ok (.getfield 36, 3) := by decide +kernel
theorem dX1_fallen_6 : decode cX1_fallen 6 = .ok (.iload_n 1, 1) := by decide +kernel
theorem dX1_fallen_7 : decode cX1_fallen 7 = .ok (.bipush 10, 2) := by decide +kernel
theorem dX1_fallen_9 : decode cX1_fallen 9 = .ok (.idiv, 1) := by decide +kernel
theorem dX1_fallen_10 : decode cX1_fallen 10 = .ok (.iaload, 1) := by decide +kernel
theorem dX1_fallen_11 : decode cX1_fallen 11 = .ok (.isub, 1) := by decide +kernel
theorem dX1_fallen_12 : decode cX1_fallen 12 = .ok (.iload_n 2, 1) := by decide +kernel
theorem dX1_fallen_13 : decode cX1_fallen 13 = .ok (.isub, 1) := by decide +kernel
theorem dX1_fallen_14 : decode cX1_fallen 14 = .ok (.invokestatic 90, 3) := by decide +kernel
theorem dX1_fallen_17 : decode cX1_fallen 17 = .ok (.ireturn, 1) := by decide +kernel
theorem dX1_gainOf_0 : decode cX1_gainOf 0 = .ok (.bipush 100, 2) := by decide +kernel
theorem dX1_gainOf_2 : decode cX1_gainOf 2 = .ok (.iload_n 1, 1) := by decide +kernel
theorem dX1_gainOf_3 : decode cX1_gainOf 3 = .ok (.isub, 1) := by decide +kernel
theorem dX1_gainOf_4 : decode cX1_gainOf 4 = .ok (.aload_n 0, 1) := by decide +kernel
theorem dX1_gainOf_5 : decode cX1_gainOf 5 = .ok (.getfield 43, 3) := by decide +kernel
theorem dX1_gainOf_8 : decode cX1_gainOf 8 = .ok (.imul, 1) := by decide +kernel
theorem dX1_gainOf_9 : decode cX1_gainOf 9 = .ok (.bipush 100, 2) := by decide +kernel
theorem dX1_gainOf_11 : decode cX1_gainOf 11 = .ok (.idiv, 1) := by decide +kernel
theorem dX1_gainOf_12 : decode cX1_gainOf 12 = .ok (.ireturn, 1) := by decide +kernel
set_option maxRecDepth 20000 in
theorem ggX1_walkPast_X1_gainOf : GoodIn wsX1_walkPast wsX1_gainOf := goodIn_r _ [9, 10, 11, 12, 13, 14, 15, 16, 17, 18, 19, 20, 21, 22, 23] (by decide +kernel) (by decide +kernel)
set_option maxRecDepth 20000 in
theorem gX1_walkPast_X1_gainOf : GoodIn wsX1_walkPast (wsV RX1 86 RX1 yX1_gainOf wsX1_gainOf) := goodIn_app (goodIn_of _ (by decide +kernel)) ggX1_walkPast_X1_gainOf
theorem dX1_walkPast_0 : decode cX1_walkPast 0 = .ok (.iconst 0, 1) := by decide +kernel
theorem dX1_walkPast_1 : decode cX1_walkPast 1 = .ok (.istore_n 2, 1) := by decide +kernel
theorem dX1_walkPast_2 : decode cX1_walkPast 2 = .ok (.iload_n 1, 1) := by decide +kernel
theorem dX1_walkPast_3 : decode cX1_walkPast 3 = .ok (.bipush 6, 2) := by decide +kernel
theorem dX1_walkPast_5 : decode cX1_walkPast 5 = .ok (.imul, 1) := by decide +kernel
theorem dX1_walkPast_6 : decode cX1_walkPast 6 = .ok (.istore_n 3, 1) := by decide +kernel
theorem dX1_walkPast_7 : decode cX1_walkPast 7 = .ok (.iload_n 3, 1) := by decide +kernel
theorem dX1_walkPast_8 : decode cX1_walkPast 8 = .ok (.istore 4, 2) := by decide +kernel
theorem dX1_walkPast_10 : decode cX1_walkPast 10 = .ok (.iload 4, 2) := by decide +kernel
theorem dX1_walkPast_12 : decode cX1_walkPast 12 = .ok (.iload_n 3, 1) := by decide +kernel
theorem dX1_walkPast_13 : decode cX1_walkPast 13 = .ok (.bipush 6, 2) := by decide +kernel
theorem dX1_walkPast_15 : decode cX1_walkPast 15 = .ok (.iadd, 1) := by decide +kernel
theorem dX1_walkPast_16 : decode cX1_walkPast 16 = .ok (.if_icmp .ge 50, 3) := by decide +kernel
theorem dX1_walkPast_19 : decode cX1_walkPast 19 = .ok (.aload_n 0, 1) := by decide +kernel
theorem dX1_walkPast_20 : decode cX1_walkPast 20 = .ok (.getfield 9, 3) := by decide +kernel
theorem dX1_walkPast_23 : decode cX1_walkPast 23 = .ok (.iload 4, 2) := by decide +kernel
theorem dX1_walkPast_25 : decode cX1_walkPast 25 = .ok (.iaload, 1) := by decide +kernel
theorem dX1_walkPast_26 : decode cX1_walkPast 26 = .ok (.iconst (-1), 1) := by decide +kernel
theorem dX1_walkPast_27 : decode cX1_walkPast 27 = .ok (.if_icmp .eq 33, 3) := by decide +kernel
theorem dX1_walkPast_30 : decode cX1_walkPast 30 = .ok (.aload_n 0, 1) := by decide +kernel
theorem dX1_walkPast_31 : decode cX1_walkPast 31 = .ok (.aload_n 0, 1) := by decide +kernel
theorem dX1_walkPast_32 : decode cX1_walkPast 32 = .ok (.getfield 15, 3) := by decide +kernel
theorem dX1_walkPast_35 : decode cX1_walkPast 35 = .ok (.iload 4, 2) := by decide +kernel
theorem dX1_walkPast_37 : decode cX1_walkPast 37 = .ok (.iaload, 1) := by decide +kernel
theorem dX1_walkPast_38 : decode cX1_walkPast 38 = .ok (.invokevirtual 86, 3) := by decide +kernel
theorem dX1_walkPast_41 : decode cX1_walkPast 41 = .ok (.istore 5, 2) := by decide +kernel
theorem dX1_walkPast_43 : decode cX1_walkPast 43 = .ok (.aload_n 0, 1) := by decide +kernel
theorem dX1_walkPast_44 : decode cX1_walkPast 44 = .ok (.getfield 15, 3) := by decide +kernel
theorem dX1_walkPast_47 : decode cX1_walkPast 47 = .ok (.iload 4, 2) := by decide +kernel
theorem dX1_walkPast_49 : decode cX1_walkPast 49 = .ok (.dup2, 1) := by decide +kernel
theorem dX1_walkPast_50 : decode cX1_walkPast 50 = .ok (.iaload, 1) := by decide +kernel
theorem dX1_walkPast_51 : decode cX1_walkPast 51 = .ok (.iload 5, 2) := by decide +kernel
theorem dX1_walkPast_53 : decode cX1_walkPast 53 = .ok (.iadd, 1) := by decide +kernel
theorem dX1_walkPast_54 : decode cX1_walkPast 54 = .ok (.iastore, 1) := by decide +kernel
theorem dX1_walkPast_55 : decode cX1_walkPast 55 = .ok (.iload_n 2, 1) := by decide +kernel
theorem dX1_walkPast_56 : decode cX1_walkPast 56 = .ok (.iload 5, 2) := by decide +kernel
theorem dX1_walkPast_58 : decode cX1_walkPast 58 = .ok (.iadd, 1) := by decide +kernel
theorem dX1_walkPast_59 : decode cX1_walkPast 59 = .ok (.istore_n 2, 1) := by decide +kernel
theorem dX1_walkPast_60 : decode cX1_walkPast 60 = .ok (.iinc 4 1, 3) := by decide +kernel
theorem dX1_walkPast_63 : decode cX1_walkPast 63 = .ok (.goto (-53), 3) := by decide +kernel
theorem dX1_walkPast_66 : decode cX1_walkPast 66 = .ok (.aload_n 0, 1) := by decide +kernel
theorem dX1_walkPast_67 : decode cX1_walkPast 67 = .ok (.getfield 33, 3) := by decide +kernel
theorem dX1_walkPast_70 : decode cX1_walkPast 70 = .ok (.iload_n 1, 1) := by decide +kernel
theorem dX1_walkPast_71 : decode cX1_walkPast 71 = .ok (.aload_n 0, 1) := by decide +kernel
theorem dX1_walkPast_72 : decode cX1_walkPast 72 = .ok (.getfield 62, 3) := by decide +kernel
theorem dX1_walkPast_75 : decode cX1_walkPast 75 = .ok (.iastore, 1) := by decide +kernel
theorem dX1_walkPast_76 : decode cX1_walkPast 76 = .ok (.iload_n 2, 1) := by decide +kernel
theorem dX1_walkPast_77 : decode cX1_walkPast 77 = .ok (.ireturn, 1) := by decide +kernel
theorem dX1_standingIn_0 : decode cX1_standingIn 0 = .ok (.iconst 0, 1) := by decide +kernel
theorem dX1_standingIn_1 : decode cX1_standingIn 1 = .ok (.istore_n 2, 1) := by decide +kernel
theorem dX1_standingIn_2 : decode cX1_standingIn 2 = .ok (.iload_n 1, 1) := by decide +kernel
theorem dX1_standingIn_3 : decode cX1_standingIn 3 = .ok (.bipush 6, 2) := by decide +kernel
theorem dX1_standingIn_5 : decode cX1_standingIn 5 = .ok (.imul, 1) := by decide +kernel
theorem dX1_standingIn_6 : decode cX1_standingIn 6 = .ok (.istore_n 3, 1) := by decide +kernel
theorem dX1_standingIn_7 : decode cX1_standingIn 7 = .ok (.iload_n 3, 1) := by decide +kernel
theorem dX1_standingIn_8 : decode cX1_standingIn 8 = .ok (.istore 4, 2) := by decide +kernel
theorem dX1_standingIn_10 : decode cX1_standingIn 10 = .ok (.iload 4, 2) := by decide +kernel
theorem dX1_standingIn_12 : decode cX1_standingIn 12 = .ok (.iload_n 3, 1) := by decide +kernel
theorem dX1_standingIn_13 : decode cX1_standingIn 13 = .ok (.bipush 6, 2) := by decide +kernel
theorem dX1_standingIn_15 : decode cX1_standingIn 15 = .ok (.iadd, 1) := by decide +kernel
theorem dX1_standingIn_16 : decode cX1_standingIn 16 = .ok (.if_icmp .ge 23, 3) := by decide +kernel
theorem dX1_standingIn_19 : decode cX1_standingIn 19 = .ok (.aload_n 0, 1) := by decide +kernel
theorem dX1_standingIn_20 : decode cX1_standingIn 20 = .ok (.getfield 9, 3) := by decide +kernel
theorem dX1_standingIn_23 : decode cX1_standingIn 23 = .ok (.iload 4, 2) := by decide +kernel
theorem dX1_standingIn_25 : decode cX1_standingIn 25 = .ok (.iaload, 1) := by decide +kernel
theorem dX1_standingIn_26 : decode cX1_standingIn 26 = .ok (.iconst (-1), 1) := by decide +kernel
theorem dX1_standingIn_27 : decode cX1_standingIn 27 = .ok (.if_icmp .eq 6, 3) := by decide +kernel
theorem dX1_standingIn_30 : decode cX1_standingIn 30 = .ok (.iinc 2 1, 3) := by decide +kernel
theorem dX1_standingIn_33 : decode cX1_standingIn 33 = .ok (.iinc 4 1, 3) := by decide +kernel
theorem dX1_standingIn_36 : decode cX1_standingIn 36 = .ok (.goto (-26), 3) := by decide +kernel
theorem dX1_standingIn_39 : decode cX1_standingIn 39 = .ok (.iload_n 2, 1) := by decide +kernel
theorem dX1_standingIn_40 : decode cX1_standingIn 40 = .ok (.ireturn, 1) := by decide +kernel
set_option maxRecDepth 20000 in
theorem ggX1_strengthAgainst_X1_crowds : GoodIn wsX1_strengthAgainst wsX1_crowds := goodIn_r _ [8, 9, 10, 11, 12, 7, 13, 14, 15, 16, 17, 18, 19, 20, 21, 22, 23, 24, 25, 26, 27, 28, 29, 30, 31, 32, 33, 34, 35, 36, 37, 38, 39, 40, 41, 42] (by decide +kernel) (by decide +kernel)
set_option maxRecDepth 20000 in
theorem gX1_strengthAgainst_X1_crowds : GoodIn wsX1_strengthAgainst (wsV RX1 79 RX1 yX1_crowds wsX1_crowds) := goodIn_app (goodIn_of _ (by decide +kernel)) ggX1_strengthAgainst_X1_crowds
theorem dX1_strengthAgainst_0 : decode cX1_strengthAgainst 0 = .ok (.aload_n 0, 1) := by decide +kernel
theorem dX1_strengthAgainst_1 : decode cX1_strengthAgainst 1 = .ok (.getfield 18, 3) := by decide +kernel
theorem dX1_strengthAgainst_4 : decode cX1_strengthAgainst 4 = .ok (.iload_n 1, 1) := by decide +kernel
theorem dX1_strengthAgainst_5 : decode cX1_strengthAgainst 5 = .ok (.iaload, 1) := by decide +kernel
theorem dX1_strengthAgainst_6 : decode cX1_strengthAgainst 6 = .ok (.iconst (-1), 1) := by decide +kernel
theorem dX1_strengthAgainst_7 : decode cX1_strengthAgainst 7 = .ok (.if_icmp .ne 7, 3) := by decide +kernel
theorem dX1_strengthAgainst_10 : decode cX1_strengthAgainst 10 = .ok (.iconst 0, 1) := by decide +kernel
theorem dX1_strengthAgainst_11 : decode cX1_strengthAgainst 11 = .ok (.goto 9, 3) := by decide +kernel
theorem dX1_strengthAgainst_14 : decode cX1_strengthAgainst 14 = .ok (.aload_n 0, 1) := by decide +kernel
theorem dX1_strengthAgainst_15 : decode cX1_strengthAgainst 15 = .ok (.getfield 21, 3) := by decide +kernel
theorem dX1_strengthAgainst_18 : decode cX1_strengthAgainst 18 = .ok (.iload_n 1, 1) := by decide +kernel
theorem dX1_strengthAgainst_19 : decode cX1_strengthAgainst 19 = .ok (.iaload, 1) := by decide +kernel
theorem dX1_strengthAgainst_20 : decode cX1_strengthAgainst 20 = .ok (.istore_n 2, 1) := by decide +kernel
theorem dX1_strengthAgainst_21 : decode cX1_strengthAgainst 21 = .ok (.iload_n 1, 1) := by decide +kernel
theorem dX1_strengthAgainst_22 : decode cX1_strengthAgainst 22 = .ok (.iload_n 1, 1) := by decide +kernel
theorem dX1_strengthAgainst_23 : decode cX1_strengthAgainst 23 = .ok (.bipush 6, 2) := by decide +kernel
theorem dX1_strengthAgainst_25 : decode cX1_strengthAgainst 25 = .ok (.irem, 1) := by decide +kernel
theorem dX1_strengthAgainst_26 : decode cX1_strengthAgainst 26 = .ok (.isub, 1) := by decide +kernel
theorem dX1_strengthAgainst_27 : decode cX1_strengthAgainst 27 = .ok (.istore_n 3, 1) := by decide +kernel
theorem dX1_strengthAgainst_28 : decode cX1_strengthAgainst 28 = .ok (.iload_n 3, 1) := by decide +kernel
theorem dX1_strengthAgainst_29 : decode cX1_strengthAgainst 29 = .ok (.istore 4, 2) := by decide +kernel
theorem dX1_strengthAgainst_31 : decode cX1_strengthAgainst 31 = .ok (.iload 4, 2) := by decide +kernel
theorem dX1_strengthAgainst_33 : decode cX1_strengthAgainst 33 = .ok (.iload_n 3, 1) := by decide +kernel
theorem dX1_strengthAgainst_34 : decode cX1_strengthAgainst 34 = .ok (.bipush 6, 2) := by decide +kernel
theorem dX1_strengthAgainst_36 : decode cX1_strengthAgainst 36 = .ok (.iadd, 1) := by decide +kernel
theorem dX1_strengthAgainst_37 : decode cX1_strengthAgainst 37 = .ok (.if_icmp .ge 29, 3) := by decide +kernel
theorem dX1_strengthAgainst_40 : decode cX1_strengthAgainst 40 = .ok (.aload_n 0, 1) := by decide +kernel
theorem dX1_strengthAgainst_41 : decode cX1_strengthAgainst 41 = .ok (.iload 4, 2) := by decide +kernel
theorem dX1_strengthAgainst_43 : decode cX1_strengthAgainst 43 = .ok (.iload_n 1, 1) := by decide +kernel
theorem dX1_strengthAgainst_44 : decode cX1_strengthAgainst 44 = .ok (.invokevirtual 79, 3) := by decide +kernel
theorem dX1_strengthAgainst_47 : decode cX1_strengthAgainst 47 = .ok (.ifCond .eq 13, 3) := by decide +kernel
theorem dX1_strengthAgainst_50 : decode cX1_strengthAgainst 50 = .ok (.iload_n 2, 1) := by decide +kernel
theorem dX1_strengthAgainst_51 : decode cX1_strengthAgainst 51 = .ok (.aload_n 0, 1) := by decide +kernel
theorem dX1_strengthAgainst_52 : decode cX1_strengthAgainst 52 = .ok (.getfield 15, 3) := by decide +kernel
theorem dX1_strengthAgainst_55 : decode cX1_strengthAgainst 55 = .ok (.iload 4, 2) := by decide +kernel
theorem dX1_strengthAgainst_57 : decode cX1_strengthAgainst 57 = .ok (.iaload, 1) := by decide +kernel
theorem dX1_strengthAgainst_58 : decode cX1_strengthAgainst 58 = .ok (.iadd, 1) := by decide +kernel
theorem dX1_strengthAgainst_59 : decode cX1_strengthAgainst 59 = .ok (.istore_n 2, 1) := by decide +kernel
theorem dX1_strengthAgainst_60 : decode cX1_strengthAgainst 60 = .ok (.iinc 4 1, 3) := by decide +kernel
theorem dX1_strengthAgainst_63 : decode cX1_strengthAgainst 63 = .ok (.goto (-32), 3) := by decide +kernel
theorem dX1_strengthAgainst_66 : decode cX1_strengthAgainst 66 = .ok (.iload_n 2, 1) := by decide +kernel
theorem dX1_strengthAgainst_67 : decode cX1_strengthAgainst 67 = .ok (.ireturn, 1) := by decide +kernel
theorem dX1_nextOnTop_0 : decode cX1_nextOnTop 0 = .ok (.iload_n 1, 1) := by decide +kernel
theorem dX1_nextOnTop_1 : decode cX1_nextOnTop 1 = .ok (.iload_n 1, 1) := by decide +kernel
theorem dX1_nextOnTop_2 : decode cX1_nextOnTop 2 = .ok (.bipush 6, 2) := by decide +kernel
theorem dX1_nextOnTop_4 : decode cX1_nextOnTop 4 = .ok (.irem, 1) := by decide +kernel
theorem dX1_nextOnTop_5 : decode cX1_nextOnTop 5 = .ok (.isub, 1) := by decide +kernel
theorem dX1_nextOnTop_6 : decode cX1_nextOnTop 6 = .ok (.istore_n 3, 1) := by decide +kernel
theorem dX1_nextOnTop_7 : decode cX1_nextOnTop 7 = .ok (.iload_n 1, 1) := by decide +kernel
theorem dX1_nextOnTop_8 : decode cX1_nextOnTop 8 = .ok (.iload_n 2, 1) := by decide +kernel
theorem dX1_nextOnTop_9 : decode cX1_nextOnTop 9 = .ok (.iadd, 1) := by decide +kernel
theorem dX1_nextOnTop_10 : decode cX1_nextOnTop 10 = .ok (.istore 4, 2) := by decide +kernel
theorem dX1_nextOnTop_12 : decode cX1_nextOnTop 12 = .ok (.iconst 0, 1) := by decide +kernel
theorem dX1_nextOnTop_13 : decode cX1_nextOnTop 13 = .ok (.istore 5, 2) := by decide +kernel
theorem dX1_nextOnTop_15 : decode cX1_nextOnTop 15 = .ok (.iload 5, 2) := by decide +kernel
theorem dX1_nextOnTop_17 : decode cX1_nextOnTop 17 = .ok (.bipush 6, 2) := by decide +kernel
theorem dX1_nextOnTop_19 : decode cX1_nextOnTop 19 = .ok (.if_icmp .ge 51, 3) := by decide +kernel
theorem dX1_nextOnTop_22 : decode cX1_nextOnTop 22 = .ok (.iload 4, 2) := by decide +kernel
theorem dX1_nextOnTop_24 : decode cX1_nextOnTop 24 = .ok (.iload_n 3, 1) := by decide +kernel
theorem dX1_nextOnTop_25 : decode cX1_nextOnTop 25 = .ok (.if_icmp .lt 12, 3) := by decide +kernel
theorem dX1_nextOnTop_28 : decode cX1_nextOnTop 28 = .ok (.iload 4, 2) := by decide +kernel
theorem dX1_nextOnTop_30 : decode cX1_nextOnTop 30 = .ok (.iload_n 3, 1) := by decide +kernel
theorem dX1_nextOnTop_31 : decode cX1_nextOnTop 31 = .ok (.bipush 6, 2) := by decide +kernel
theorem dX1_nextOnTop_33 : decode cX1_nextOnTop 33 = .ok (.iadd, 1) := by decide +kernel
theorem dX1_nextOnTop_34 : decode cX1_nextOnTop 34 = .ok (.if_icmp .lt 5, 3) := by decide +kernel
theorem dX1_nextOnTop_37 : decode cX1_nextOnTop 37 = .ok (.iconst (-1), 1) := by decide +kernel
theorem dX1_nextOnTop_38 : decode cX1_nextOnTop 38 = .ok (.ireturn, 1) := by decide +kernel
theorem dX1_nextOnTop_39 : decode cX1_nextOnTop 39 = .ok (.aload_n 0, 1) := by decide +kernel
theorem dX1_nextOnTop_40 : decode cX1_nextOnTop 40 = .ok (.getfield 9, 3) := by decide +kernel
theorem dX1_nextOnTop_43 : decode cX1_nextOnTop 43 = .ok (.iload 4, 2) := by decide +kernel
theorem dX1_nextOnTop_45 : decode cX1_nextOnTop 45 = .ok (.iaload, 1) := by decide +kernel
theorem dX1_nextOnTop_46 : decode cX1_nextOnTop 46 = .ok (.iconst (-1), 1) := by decide +kernel
theorem dX1_nextOnTop_47 : decode cX1_nextOnTop 47 = .ok (.if_icmp .eq 11, 3) := by decide +kernel
theorem dX1_nextOnTop_50 : decode cX1_nextOnTop 50 = .ok (.aload_n 0, 1) := by decide +kernel
theorem dX1_nextOnTop_51 : decode cX1_nextOnTop 51 = .ok (.getfield 9, 3) := by decide +kernel
theorem dX1_nextOnTop_54 : decode cX1_nextOnTop 54 = .ok (.iload 4, 2) := by decide +kernel
theorem dX1_nextOnTop_56 : decode cX1_nextOnTop 56 = .ok (.iaload, 1) := by decide +kernel
theorem dX1_nextOnTop_57 : decode cX1_nextOnTop 57 = .ok (.ireturn, 1) := by decide +kernel
theorem dX1_nextOnTop_58 : decode cX1_nextOnTop 58 = .ok (.iload 4, 2) := by decide +kernel
theorem dX1_nextOnTop_60 : decode cX1_nextOnTop 60 = .ok (.iload_n 2, 1) := by decide +kernel
theorem dX1_nextOnTop_61 : decode cX1_nextOnTop 61 = .ok (.iadd, 1) := by decide +kernel
theorem dX1_nextOnTop_62 : decode cX1_nextOnTop 62 = .ok (.istore 4, 2) := by decide +kernel
theorem dX1_nextOnTop_64 : decode cX1_nextOnTop 64 = .ok (.iinc 5 1, 3) := by decide +kernel
theorem dX1_nextOnTop_67 : decode cX1_nextOnTop 67 = .ok (.goto (-52), 3) := by decide +kernel
theorem dX1_nextOnTop_70 : decode cX1_nextOnTop 70 = .ok (.iconst (-1), 1) := by decide +kernel
theorem dX1_nextOnTop_71 : decode cX1_nextOnTop 71 = .ok (.ireturn, 1) := by decide +kernel
theorem dX1_allStrength_0 : decode cX1_allStrength 0 = .ok (.iconst 0, 1) := by decide +kernel
theorem dX1_allStrength_1 : decode cX1_allStrength 1 = .ok (.istore_n 1, 1) := by decide +kernel
theorem dX1_allStrength_2 : decode cX1_allStrength 2 = .ok (.iconst 0, 1) := by decide +kernel
theorem dX1_allStrength_3 : decode cX1_allStrength 3 = .ok (.istore_n 2, 1) := by decide +kernel
theorem dX1_allStrength_4 : decode cX1_allStrength 4 = .ok (.iload_n 2, 1) := by decide +kernel
theorem dX1_allStrength_5 : decode cX1_allStrength 5 = .ok (.bipush 48, 2) := by decide +kernel
theorem dX1_allStrength_7 : decode cX1_allStrength 7 = .ok (.if_icmp .ge 28, 3) := by decide +kernel
theorem dX1_allStrength_10 : decode cX1_allStrength 10 = .ok (.aload_n 0, 1) := by decide +kernel
theorem dX1_allStrength_11 : decode cX1_allStrength 11 = .ok (.getfield 9, 3) := by decide +kernel
theorem dX1_allStrength_14 : decode cX1_allStrength 14 = .ok (.iload_n 2, 1) := by decide +kernel
theorem dX1_allStrength_15 : decode cX1_allStrength 15 = .ok (.iaload, 1) := by decide +kernel
theorem dX1_allStrength_16 : decode cX1_allStrength 16 = .ok (.iconst (-1), 1) := by decide +kernel
theorem dX1_allStrength_17 : decode cX1_allStrength 17 = .ok (.if_icmp .eq 12, 3) := by decide +kernel
theorem dX1_allStrength_20 : decode cX1_allStrength 20 = .ok (.iload_n 1, 1) := by decide +kernel
theorem dX1_allStrength_21 : decode cX1_allStrength 21 = .ok (.aload_n 0, 1) := by decide +kernel
theorem dX1_allStrength_22 : decode cX1_allStrength 22 = .ok (.getfield 15, 3) := by decide +kernel
theorem dX1_allStrength_25 : decode cX1_allStrength 25 = .ok (.iload_n 2, 1) := by decide +kernel
theorem dX1_allStrength_26 : decode cX1_allStrength 26 = .ok (.iaload, 1) := by decide +kernel
theorem dX1_allStrength_27 : decode cX1_allStrength 27 = .ok (.iadd, 1) := by decide +kernel
theorem dX1_allStrength_28 : decode cX1_allStrength 28 = .ok (.istore_n 1, 1) := by decide +kernel
theorem dX1_allStrength_29 : decode cX1_allStrength 29 = .ok (.iinc 2 1, 3) := by decide +kernel
theorem dX1_allStrength_32 : decode cX1_allStrength 32 = .ok (.goto (-28), 3) := by decide +kernel
theorem dX1_allStrength_35 : decode cX1_allStrength 35 = .ok (.iload_n 1, 1) := by decide +kernel
theorem dX1_allStrength_36 : decode cX1_allStrength 36 = .ok (.ireturn, 1) := by decide +kernel
set_option maxHeartbeats 4000000 in
set_option maxRecDepth 100000 in
theorem k_X1_muchAlike (l : Launch) (dC : Nat → ClassId) (dI : Nat → Nat → Nat) (cI cZ cQ : ClassId) (a : Nat → Nat) (top : Nat → Int32) (str : Nat → Int32) (gho : Nat → Int32) (ghs : Nat → Int32) (pto : Nat → Int32) (cro : Nat → Int32) (pla : Nat → Int32) (wal : Nat → Int32) (fal : Nat → Int32) (tel : Int32) (gai : Int32) (day : Int32) (mar : Nat → Int32) (one : Int32) (two : Int32) (r_top : rg 48 (-1) (23) top) (r_str : rg 48 (0) (100) str) (r_gho : rg 48 (-1) (23) gho) (r_ghs : rg 48 (0) (100) ghs) (r_cro : rg 48 (0) (6) cro) (r_pla : rg 24 (-1) (47) pla) (r_fal : rg 11 (0) (30) fal) (r_gai : 0 ≤ gai.toInt ∧ gai.toInt ≤ 100) (r_day : 0 ≤ day.toInt ∧ day.toInt ≤ 400) (r_mar : rg 24 (0) (255) mar) (q0 : 0 ≤ one.toInt) (q1 : one.toInt ≤ 23) (q2 : 0 ≤ two.toInt) (q3 : two.toInt ≤ 23) : KR l yX1_muchAlike wsX1_muchAlike { frames := 2, cells := 0, slots := 0, locals := 42 } (dC, dI) (TY cI cZ cQ) (wCor cI cZ cQ a top str gho ghs pto cro pla wal fal tel gai day mar) [.ref (a 4), .int one, .int two] (fun r : Int32 => ((((r = 1)) ∨ ((r = 0))))) := by
  refine Met.ofW (cc := cX1_muchAlike) (maxL := 3) (ret := (some .boolean)) (by decide) rfl ?_
  intro p e s m args below meth c s₁ B hml hv
  obtain ⟨rfl, hP, hK, hN⟩ := hv
  have hx := B.exec
  have hb := B.bytes
  have hr := B.returns
  have hts := atoms_spec (ws := wsX1_muchAlike) B.pre
  have hown : s.vm.findClass RX1 = some m.cls := findClass_of_methodNamed B.named
  have hlocks := B.notSynchronized
  have lf46 := hts (.fieldLink RX1 46 "PalaceOfRooms$Corners" "pictures" "LPalaceOfRooms$Pictures;") (by decide +kernel)
  have inX1 : ∀ w ∈ wsX10, w ∈ wsX1_muchAlike := by decide +kernel
  have lf39 := hts (.fieldLink RX1 39 "PalaceOfRooms$Corners" "tell" "I") (by decide +kernel)
  have hl := lv_entry ([.ref (a 4), .int one, .int two]) (n := 3) (Nat.le_of_ble_eq_true rfl)
  rw [lg_entry_eq]
  generalize (lg_sl ([.ref (a 4), .int one, .int two]) ++ List.replicate (3 - (lg_sl ([.ref (a 4), .int one, .int two])).length) Slot.unset).toArray = ls at hl ⊢
  have hl : lv_has ls 3 [(0, .ref (a 4)), (1, .int one), (2, .int two)] := hl
  refine lv_aload_n hx hb dX1_muchAlike_0 rfl (lv_at hl 0 rfl) ?_
  refine va_get (D := (dC, dI)) (ci := 1) (v := .ref (a 2)) (C := RX1) (T := TX1) (N := 13) hx hb hts inX1 hown hK hP 0 rfl rfl 0 (by decide) lf46 (fun _ h9 => h9) rfl dX1_muchAlike_1 ?_
  refine lv_iload_n hx hb dX1_muchAlike_4 rfl (lv_at hl 1 rfl) ?_
  refine lv_iload_n hx hb dX1_muchAlike_5 rfl (lv_at hl 2 rfl) ?_
  refine rdV (As := [.int one, .int two]) (rest := []) ⟨hx, hb, hml, hown, hts⟩ (k_X2_shared l dC dI cI cZ cQ a mar one two r_mar (by omega) (by omega) (by omega) (by omega)) (cwV 2 hts gX1_muchAlike_X2_shared rfl rfl rfl (by decide +kernel) ⟨Nat.le_of_ble_eq_true rfl, Nat.le_of_ble_eq_true rfl⟩) hP hK hN [10, 11] rfl 10 2 rfl rfl rfl hl.1 rfl (Nat.le_of_ble_eq_true rfl) dX1_muchAlike_6 ⟨Nat.le_of_ble_eq_true rfl, Nat.le_of_ble_eq_true rfl⟩ (fun r1 h2 => ?_)
  have h2 : (r1 = bc (mar one.toNatClampNeg &&& mar two.toNatClampNeg)) := h2
  have h2_0 := h2
  refine lv_aload_n hx hb dX1_muchAlike_9 rfl (lv_at hl 0 rfl) ?_
  refine va_get (D := (dC, dI)) (ci := 1) (v := .int tel) (C := RX1) (T := TX1) (N := 13) hx hb hts inX1 hown hK hP 0 rfl rfl 10 (by decide) lf39 (fun _ h9 => h9) rfl dX1_muchAlike_10 ?_
  refine lv_icmp_lt (tgt := 20) hx hb dX1_muchAlike_13 (by decide) (fun c3 => ?_) (fun c3 => ?_)
  · have dc3 : r1.toInt < tel.toInt := ltC rfl rfl c3
    refine lv_iconst (v := 0) hx hb dX1_muchAlike_20 (by decide) ?_
    exact W.zret (v := 0) hx hb hr (by decide) (fun t ht hW => ⟨0, rfl, (Or.inr rfl), ht⟩) (fun q h => by cases h) dX1_muchAlike_21
  · have dc3 : tel.toInt ≤ r1.toInt := nltC rfl rfl c3
    refine lv_iconst (v := 1) hx hb dX1_muchAlike_16 (by decide) ?_
    refine lv_goto (tgt := 21) hx hb dX1_muchAlike_17 (by decide) ?_
    exact W.zret (v := 1) hx hb hr (by decide) (fun t ht hW => ⟨1, rfl, (Or.inl rfl), ht⟩) (fun q h => by cases h) dX1_muchAlike_21
set_option maxHeartbeats 4000000 in
set_option maxRecDepth 100000 in
theorem k_X1_fallen (l : Launch) (dC : Nat → ClassId) (dI : Nat → Nat → Nat) (cI cZ cQ : ClassId) (a : Nat → Nat) (top : Nat → Int32) (str : Nat → Int32) (gho : Nat → Int32) (ghs : Nat → Int32) (pto : Nat → Int32) (cro : Nat → Int32) (pla : Nat → Int32) (wal : Nat → Int32) (fal : Nat → Int32) (tel : Int32) (gai : Int32) (day : Int32) (mar : Nat → Int32) (fr : Int32) (mo : Int32) (r_top : rg 48 (-1) (23) top) (r_str : rg 48 (0) (100) str) (r_gho : rg 48 (-1) (23) gho) (r_ghs : rg 48 (0) (100) ghs) (r_cro : rg 48 (0) (6) cro) (r_pla : rg 24 (-1) (47) pla) (r_fal : rg 11 (0) (30) fal) (r_gai : 0 ≤ gai.toInt ∧ gai.toInt ≤ 100) (r_day : 0 ≤ day.toInt ∧ day.toInt ≤ 400) (r_mar : rg 24 (0) (255) mar) (q0 : 0 ≤ fr.toInt) (q1 : fr.toInt ≤ 100) (q2 : 0 ≤ mo.toInt) (q3 : mo.toInt ≤ 6) : KR l yX1_fallen wsX1_fallen { frames := 1, cells := 0, slots := 0, locals := 24 } (dC, dI) (TY cI cZ cQ) (wCor cI cZ cQ a top str gho ghs pto cro pla wal fal tel gai day mar) [.ref (a 4), .int fr, .int mo] (fun r : Int32 => (0 ≤ r.toInt) ∧ (r.toInt ≤ fr.toInt) ∧ (r.toInt ≤ 100)) := by
  refine Met.ofW (cc := cX1_fallen) (maxL := 3) (ret := (some .int)) (by decide) rfl ?_
  intro p e s m args below meth c s₁ B hml hv
  obtain ⟨rfl, hP, hK, hN⟩ := hv
  have hx := B.exec
  have hb := B.bytes
  have hr := B.returns
  have hts := atoms_spec (ws := wsX1_fallen) B.pre
  have hown : s.vm.findClass RX1 = some m.cls := findClass_of_methodNamed B.named
  have hlocks := B.notSynchronized
  have lf36 := hts (.fieldLink RX1 36 "PalaceOfRooms$Corners" "fallOf" "[I") (by decide +kernel)
  have inX1 : ∀ w ∈ wsX10, w ∈ wsX1_fallen := by decide +kernel
  have hl := lv_entry ([.ref (a 4), .int fr, .int mo]) (n := 3) (Nat.le_of_ble_eq_true rfl)
  rw [lg_entry_eq]
  generalize (lg_sl ([.ref (a 4), .int fr, .int mo]) ++ List.replicate (3 - (lg_sl ([.ref (a 4), .int fr, .int mo])).length) Slot.unset).toArray = ls at hl ⊢
  have hl : lv_has ls 3 [(0, .ref (a 4)), (1, .int fr), (2, .int mo)] := hl
  refine lv_iconst (v := 0) hx hb dX1_fallen_0 (by decide) ?_
  refine lv_iload_n hx hb dX1_fallen_1 rfl (lv_at hl 1 rfl) ?_
  refine lv_aload_n hx hb dX1_fallen_2 rfl (lv_at hl 0 rfl) ?_
  refine va_get (D := (dC, dI)) (ci := 1) (v := .ref (a 13)) (C := RX1) (T := TX1) (N := 13) hx hb hts inX1 hown hK hP 0 rfl rfl 9 (by decide) lf36 (fun _ h9 => h9) rfl dX1_fallen_3 ?_
  refine lv_iload_n hx hb dX1_fallen_6 rfl (lv_at hl 1 rfl) ?_
  refine lv_bipush (v := 10) hx hb dX1_fallen_7 (by decide) ?_
  refine lv_idiv hx hb dX1_fallen_9 (by decide) ?_
  have f1 : (fr / 10).toInt = (fr.toInt) / (10) := divC rfl (show (10 : Int32).toInt = 10 from rfl) (by omega) (by omega)
  have b2 : vp_in (fr / 10) 11 := inC f1 (by omega) (by omega)
  refine va_iald hx hb hK hP 9 0 rfl rfl b2 dX1_fallen_10 ?_
  have g3 : 0 ≤ (fal (fr / 10).toNatClampNeg).toInt ∧ (fal (fr / 10).toNatClampNeg).toInt ≤ 30 := rg_at r_fal b2
  refine lv_isub hx hb dX1_fallen_11 ?_
  have f4 : (fr - (fal (fr / 10).toNatClampNeg)).toInt = (fr.toInt) - ((fal (fr / 10).toNatClampNeg).toInt) := subC rfl rfl (by omega) (by omega)
  refine lv_iload_n hx hb dX1_fallen_12 rfl (lv_at hl 2 rfl) ?_
  refine lv_isub hx hb dX1_fallen_13 ?_
  have f5 : ((fr - (fal (fr / 10).toNatClampNeg)) - mo).toInt = ((fr.toInt) - ((fal (fr / 10).toNatClampNeg).toInt)) - (mo.toInt) := subC f4 rfl (by omega) (by omega)
  refine va_mmax hx hb (by rw [hml]; exact hl.1.symm) hown (hts (.methodLink RX1 90 Lib.Math.max.name) (by decide +kernel)) (hts (.static Lib.Math.max.name) (by decide +kernel)) (hts (.initialized "java/lang/Math") (by decide +kernel)) (hts (.code Lib.Math.max.name Lib.Math.max.code 2 (some .int)) (by decide +kernel)) (Nat.le_of_ble_eq_true rfl) (Nat.le_of_ble_eq_true rfl) (Nat.le_of_ble_eq_true rfl) (Nat.le_of_ble_eq_true rfl) dX1_fallen_14 ?_
  have f6 : (if (0 : Int32) < (fr - (fal (fr / 10).toNatClampNeg)) - mo then (fr - (fal (fr / 10).toNatClampNeg)) - mo else 0 : Int32).toInt = max (0) (((fr.toInt) - ((fal (fr / 10).toNatClampNeg).toInt)) - (mo.toInt)) := maxC (show (0 : Int32).toInt = 0 from rfl) f5
  refine lv_topi (fun x7 ex7 => ?_)
  have ix7 : x7.toInt = max (0) (((fr.toInt) - ((fal (fr / 10).toNatClampNeg).toInt)) - (mo.toInt)) := by rw [ex7]; exact f6
  exact W.iret (v := x7) hx hb hr (fun t ht hW => ⟨x7, rfl, ⟨(show 0 ≤ x7.toInt from by omega), (show x7.toInt ≤ fr.toInt from by omega), (show x7.toInt ≤ 100 from by omega)⟩, ht⟩) (fun q h => by cases h) dX1_fallen_17
set_option maxHeartbeats 4000000 in
set_option maxRecDepth 100000 in
theorem k_X1_gainOf (l : Launch) (dC : Nat → ClassId) (dI : Nat → Nat → Nat) (cI cZ cQ : ClassId) (a : Nat → Nat) (top : Nat → Int32) (str : Nat → Int32) (gho : Nat → Int32) (ghs : Nat → Int32) (pto : Nat → Int32) (cro : Nat → Int32) (pla : Nat → Int32) (wal : Nat → Int32) (fal : Nat → Int32) (tel : Int32) (gai : Int32) (day : Int32) (mar : Nat → Int32) (fr : Int32) (r_top : rg 48 (-1) (23) top) (r_str : rg 48 (0) (100) str) (r_gho : rg 48 (-1) (23) gho) (r_ghs : rg 48 (0) (100) ghs) (r_cro : rg 48 (0) (6) cro) (r_pla : rg 24 (-1) (47) pla) (r_fal : rg 11 (0) (30) fal) (r_gai : 0 ≤ gai.toInt ∧ gai.toInt ≤ 100) (r_day : 0 ≤ day.toInt ∧ day.toInt ≤ 400) (r_mar : rg 24 (0) (255) mar) (q0 : 0 ≤ fr.toInt) (q1 : fr.toInt ≤ 100) : KR l yX1_gainOf wsX1_gainOf { frames := 0, cells := 0, slots := 0, locals := 0 } (dC, dI) (TY cI cZ cQ) (wCor cI cZ cQ a top str gho ghs pto cro pla wal fal tel gai day mar) [.ref (a 4), .int fr] (fun r : Int32 => (0 ≤ r.toInt) ∧ (r.toInt ≤ 100 - fr.toInt) ∧ (r.toInt ≤ 100)) := by
  refine Met.ofW (cc := cX1_gainOf) (maxL := 2) (ret := (some .int)) (by decide) rfl ?_
  intro p e s m args below meth c s₁ B hml hv
  obtain ⟨rfl, hP, hK, hN⟩ := hv
  have hx := B.exec
  have hb := B.bytes
  have hr := B.returns
  have hts := atoms_spec (ws := wsX1_gainOf) B.pre
  have hown : s.vm.findClass RX1 = some m.cls := findClass_of_methodNamed B.named
  have hlocks := B.notSynchronized
  have lf43 := hts (.fieldLink RX1 43 "PalaceOfRooms$Corners" "gain" "I") (by decide +kernel)
  have inX1 : ∀ w ∈ wsX10, w ∈ wsX1_gainOf := fun w h => List.mem_cons_of_mem _ (List.mem_append_right _ h)
  have hl := lv_entry ([.ref (a 4), .int fr]) (n := 2) (Nat.le_of_ble_eq_true rfl)
  rw [lg_entry_eq]
  generalize (lg_sl ([.ref (a 4), .int fr]) ++ List.replicate (2 - (lg_sl ([.ref (a 4), .int fr])).length) Slot.unset).toArray = ls at hl ⊢
  have hl : lv_has ls 2 [(0, .ref (a 4)), (1, .int fr)] := hl
  refine lv_bipush (v := 100) hx hb dX1_gainOf_0 (by decide) ?_
  refine lv_iload_n hx hb dX1_gainOf_2 rfl (lv_at hl 1 rfl) ?_
  refine lv_isub hx hb dX1_gainOf_3 ?_
  have f1 : (100 - fr).toInt = (100) - (fr.toInt) := subC (show (100 : Int32).toInt = 100 from rfl) rfl (by omega) (by omega)
  refine lv_aload_n hx hb dX1_gainOf_4 rfl (lv_at hl 0 rfl) ?_
  refine va_get (D := (dC, dI)) (ci := 1) (v := .int gai) (C := RX1) (T := TX1) (N := 13) hx hb hts inX1 hown hK hP 0 rfl rfl 11 (by decide) lf43 (fun _ h9 => h9) rfl dX1_gainOf_5 ?_
  refine lv_imul hx hb dX1_gainOf_8 ?_
  obtain ⟨f2, f2_1, f2_2⟩ := mulB (a := (100 - fr)) (b := gai) (A := (100) - (fr.toInt)) (B := gai.toInt) (p := 100) (q := 100) f1 rfl (by omega) (by omega) (by omega) (by omega) (by decide)
  refine lv_bipush (v := 100) hx hb dX1_gainOf_9 (by decide) ?_
  refine lv_idiv hx hb dX1_gainOf_11 (by decide) ?_
  have f3 : (((100 - fr) * gai) / 100).toInt = (((100) - (fr.toInt)) * (gai.toInt)) / (100) := divC f2 (show (100 : Int32).toInt = 100 from rfl) (by omega) (by omega)
  exact W.iret (v := ((100 - fr) * gai) / 100) hx hb hr (fun t ht hW => ⟨((100 - fr) * gai) / 100, rfl, ⟨(show 0 ≤ (((100 - fr) * gai) / 100).toInt from by (try rw [show (((100 - fr) * gai) / 100).toInt = (((100) - (fr.toInt)) * (gai.toInt)) / (100) from f3]); omega), (show (((100 - fr) * gai) / 100).toInt ≤ 100 - fr.toInt from by (try rw [show (((100 - fr) * gai) / 100).toInt = (((100) - (fr.toInt)) * (gai.toInt)) / (100) from f3]); omega), (show (((100 - fr) * gai) / 100).toInt ≤ 100 from by (try rw [show (((100 - fr) * gai) / 100).toInt = (((100) - (fr.toInt)) * (gai.toInt)) / (100) from f3]); omega)⟩, ht⟩) (fun q h => by cases h) dX1_gainOf_12
set_option maxHeartbeats 4000000 in
set_option maxRecDepth 100000 in
theorem k_X1_crowds (l : Launch) (dC : Nat → ClassId) (dI : Nat → Nat → Nat) (cI cZ cQ : ClassId) (a : Nat → Nat) (top : Nat → Int32) (str : Nat → Int32) (gho : Nat → Int32) (ghs : Nat → Int32) (pto : Nat → Int32) (cro : Nat → Int32) (pla : Nat → Int32) (wal : Nat → Int32) (fal : Nat → Int32) (tel : Int32) (gai : Int32) (day : Int32) (mar : Nat → Int32) (ot : Int32) (co : Int32) (r_top : rg 48 (-1) (23) top) (r_str : rg 48 (0) (100) str) (r_gho : rg 48 (-1) (23) gho) (r_ghs : rg 48 (0) (100) ghs) (r_cro : rg 48 (0) (6) cro) (r_pla : rg 24 (-1) (47) pla) (r_fal : rg 11 (0) (30) fal) (r_gai : 0 ≤ gai.toInt ∧ gai.toInt ≤ 100) (r_day : 0 ≤ day.toInt ∧ day.toInt ≤ 400) (r_mar : rg 24 (0) (255) mar) (q0 : 0 ≤ ot.toInt) (q1 : ot.toInt ≤ 47) (q2 : 0 ≤ co.toInt) (q3 : co.toInt ≤ 47) : KR l yX1_crowds wsX1_crowds { frames := 3, cells := 0, slots := 0, locals := 64 } (dC, dI) (TY cI cZ cQ) (wCor cI cZ cQ a top str gho ghs pto cro pla wal fal tel gai day mar) [.ref (a 4), .int ot, .int co] (fun r : Int32 => ((((r = 1)) ∨ ((r = 0))))) := by
  refine Met.ofW (cc := cX1_crowds) (maxL := 3) (ret := (some .boolean)) (by decide) rfl ?_
  intro p e s m args below meth c s₁ B hml hv
  obtain ⟨rfl, hP, hK, hN⟩ := hv
  have hx := B.exec
  have hb := B.bytes
  have hr := B.returns
  have hts := atoms_spec (ws := wsX1_crowds) B.pre
  have hown : s.vm.findClass RX1 = some m.cls := findClass_of_methodNamed B.named
  have hlocks := B.notSynchronized
  have lf9 := hts (.fieldLink RX1 9 "PalaceOfRooms$Corners" "top" "[I") (by decide +kernel)
  have inX1 : ∀ w ∈ wsX10, w ∈ wsX1_crowds := by decide +kernel
  have hl := lv_entry ([.ref (a 4), .int ot, .int co]) (n := 3) (Nat.le_of_ble_eq_true rfl)
  rw [lg_entry_eq]
  generalize (lg_sl ([.ref (a 4), .int ot, .int co]) ++ List.replicate (3 - (lg_sl ([.ref (a 4), .int ot, .int co])).length) Slot.unset).toArray = ls at hl ⊢
  have hl : lv_has ls 3 [(0, .ref (a 4)), (1, .int ot), (2, .int co)] := hl
  refine lv_iload_n hx hb dX1_crowds_0 rfl (lv_at hl 1 rfl) ?_
  refine lv_iload_n hx hb dX1_crowds_1 rfl (lv_at hl 2 rfl) ?_
  refine lv_icmp_eq (tgt := 48) hx hb dX1_crowds_2 (by decide) (fun c1 => ?_) (fun c1 => ?_)
  · have dc1 : ot.toInt = co.toInt := eqC rfl rfl c1
    refine lv_iconst (v := 0) hx hb dX1_crowds_48 (by decide) ?_
    exact W.zret (v := 0) hx hb hr (by decide) (fun t ht hW => ⟨0, rfl, (Or.inr rfl), ht⟩) (fun q h => by cases h) dX1_crowds_49
  · have dc1 : ot.toInt ≠ co.toInt := neC rfl rfl c1
    refine lv_aload_n hx hb dX1_crowds_5 rfl (lv_at hl 0 rfl) ?_
    refine va_get (D := (dC, dI)) (ci := 1) (v := .ref (a 5)) (C := RX1) (T := TX1) (N := 13) hx hb hts inX1 hown hK hP 0 rfl rfl 1 (by decide) lf9 (fun _ h9 => h9) rfl dX1_crowds_6 ?_
    refine lv_iload_n hx hb dX1_crowds_9 rfl (lv_at hl 1 rfl) ?_
    have b2 : vp_in ot 48 := inC rfl (by omega) (by omega)
    refine va_iald hx hb hK hP 1 0 rfl rfl b2 dX1_crowds_10 ?_
    have g3 : -1 ≤ (top ot.toNatClampNeg).toInt ∧ (top ot.toNatClampNeg).toInt ≤ 23 := rg_at r_top b2
    refine lv_iconst (v := (-1)) hx hb dX1_crowds_11 (by decide) ?_
    refine lv_icmp_eq (tgt := 48) hx hb dX1_crowds_12 (by decide) (fun c4 => ?_) (fun c4 => ?_)
    · have dc4 : (top ot.toNatClampNeg).toInt = (-1) := eqC rfl (show ((-1) : Int32).toInt = (-1) from rfl) c4
      refine lv_iconst (v := 0) hx hb dX1_crowds_48 (by decide) ?_
      exact W.zret (v := 0) hx hb hr (by decide) (fun t ht hW => ⟨0, rfl, (Or.inr rfl), ht⟩) (fun q h => by cases h) dX1_crowds_49
    · have dc4 : (top ot.toNatClampNeg).toInt ≠ (-1) := neC rfl (show ((-1) : Int32).toInt = (-1) from rfl) c4
      refine lv_aload_n hx hb dX1_crowds_15 rfl (lv_at hl 0 rfl) ?_
      refine va_get (D := (dC, dI)) (ci := 1) (v := .ref (a 5)) (C := RX1) (T := TX1) (N := 13) hx hb hts inX1 hown hK hP 0 rfl rfl 1 (by decide) lf9 (fun _ h9 => h9) rfl dX1_crowds_16 ?_
      refine lv_iload_n hx hb dX1_crowds_19 rfl (lv_at hl 2 rfl) ?_
      have b5 : vp_in co 48 := inC rfl (by omega) (by omega)
      refine va_iald hx hb hK hP 1 0 rfl rfl b5 dX1_crowds_20 ?_
      have g6 : -1 ≤ (top co.toNatClampNeg).toInt ∧ (top co.toNatClampNeg).toInt ≤ 23 := rg_at r_top b5
      refine lv_iconst (v := (-1)) hx hb dX1_crowds_21 (by decide) ?_
      refine lv_icmp_eq (tgt := 48) hx hb dX1_crowds_22 (by decide) (fun c7 => ?_) (fun c7 => ?_)
      · have dc7 : (top co.toNatClampNeg).toInt = (-1) := eqC rfl (show ((-1) : Int32).toInt = (-1) from rfl) c7
        refine lv_iconst (v := 0) hx hb dX1_crowds_48 (by decide) ?_
        exact W.zret (v := 0) hx hb hr (by decide) (fun t ht hW => ⟨0, rfl, (Or.inr rfl), ht⟩) (fun q h => by cases h) dX1_crowds_49
      · have dc7 : (top co.toNatClampNeg).toInt ≠ (-1) := neC rfl (show ((-1) : Int32).toInt = (-1) from rfl) c7
        refine lv_aload_n hx hb dX1_crowds_25 rfl (lv_at hl 0 rfl) ?_
        refine lv_aload_n hx hb dX1_crowds_26 rfl (lv_at hl 0 rfl) ?_
        refine va_get (D := (dC, dI)) (ci := 1) (v := .ref (a 5)) (C := RX1) (T := TX1) (N := 13) hx hb hts inX1 hown hK hP 0 rfl rfl 1 (by decide) lf9 (fun _ h9 => h9) rfl dX1_crowds_27 ?_
        refine lv_iload_n hx hb dX1_crowds_30 rfl (lv_at hl 1 rfl) ?_
        have b8 : vp_in ot 48 := inC rfl (by omega) (by omega)
        refine va_iald hx hb hK hP 1 0 rfl rfl b8 dX1_crowds_31 ?_
        have g9 : -1 ≤ (top ot.toNatClampNeg).toInt ∧ (top ot.toNatClampNeg).toInt ≤ 23 := rg_at r_top b8
        refine lv_aload_n hx hb dX1_crowds_32 rfl (lv_at hl 0 rfl) ?_
        refine va_get (D := (dC, dI)) (ci := 1) (v := .ref (a 5)) (C := RX1) (T := TX1) (N := 13) hx hb hts inX1 hown hK hP 0 rfl rfl 1 (by decide) lf9 (fun _ h9 => h9) rfl dX1_crowds_33 ?_
        refine lv_iload_n hx hb dX1_crowds_36 rfl (lv_at hl 2 rfl) ?_
        have b10 : vp_in co 48 := inC rfl (by omega) (by omega)
        refine va_iald hx hb hK hP 1 0 rfl rfl b10 dX1_crowds_37 ?_
        have g11 : -1 ≤ (top co.toNatClampNeg).toInt ∧ (top co.toNatClampNeg).toInt ≤ 23 := rg_at r_top b10
        refine rdV (As := [.int (top ot.toNatClampNeg), .int (top co.toNatClampNeg)]) (rest := []) ⟨hx, hb, hml, hown, hts⟩ (k_X1_muchAlike l dC dI cI cZ cQ a top str gho ghs pto cro pla wal fal tel gai day mar (top ot.toNatClampNeg) (top co.toNatClampNeg) r_top r_str r_gho r_ghs r_cro r_pla r_fal r_gai r_day r_mar (by omega) (by omega) (by omega) (by omega)) (cwV 2 hts gX1_crowds_X1_muchAlike rfl rfl rfl (by decide +kernel) ⟨Nat.le_of_ble_eq_true rfl, Nat.le_of_ble_eq_true rfl⟩) hP hK hN [0, 1, 2, 3, 4, 5, 6, 7, 8, 9, 10, 11] rfl 0 1 rfl rfl rfl hl.1 rfl (Nat.le_of_ble_eq_true rfl) dX1_crowds_38 ⟨Nat.le_of_ble_eq_true rfl, Nat.le_of_ble_eq_true rfl⟩ (fun r12 h13 => ?_)
        have h13 : ((((r12 = 1)) ∨ ((r12 = 0)))) := h13
        rcases h13 with (rfl | rfl)
        · refine lv_if_eq (tgt := 48) hx hb dX1_crowds_41 (by decide) (fun c9 => absurd c9 (by decide)) (fun _ => ?_)
          refine lv_iconst (v := 1) hx hb dX1_crowds_44 (by decide) ?_
          refine lv_goto (tgt := 49) hx hb dX1_crowds_45 (by decide) ?_
          exact W.zret (v := 1) hx hb hr (by decide) (fun t ht hW => ⟨1, rfl, (Or.inl rfl), ht⟩) (fun q h => by cases h) dX1_crowds_49
        · refine lv_if_eq (tgt := 48) hx hb dX1_crowds_41 (by decide) (fun _ => ?_) (fun c9 => absurd (by decide) c9)
          refine lv_iconst (v := 0) hx hb dX1_crowds_48 (by decide) ?_
          exact W.zret (v := 0) hx hb hr (by decide) (fun t ht hW => ⟨0, rfl, (Or.inr rfl), ht⟩) (fun q h => by cases h) dX1_crowds_49
set_option maxHeartbeats 4000000 in
set_option maxRecDepth 100000 in
theorem k_X1_strengthBehind (l : Launch) (dC : Nat → ClassId) (dI : Nat → Nat → Nat) (cI cZ cQ : ClassId) (a : Nat → Nat) (top : Nat → Int32) (str : Nat → Int32) (gho : Nat → Int32) (ghs : Nat → Int32) (pto : Nat → Int32) (cro : Nat → Int32) (pla : Nat → Int32) (wal : Nat → Int32) (fal : Nat → Int32) (tel : Int32) (gai : Int32) (day : Int32) (mar : Nat → Int32) (co : Int32) (n : Int32) (wd : Int32) (r_top : rg 48 (-1) (23) top) (r_str : rg 48 (0) (100) str) (r_gho : rg 48 (-1) (23) gho) (r_ghs : rg 48 (0) (100) ghs) (r_cro : rg 48 (0) (6) cro) (r_pla : rg 24 (-1) (47) pla) (r_fal : rg 11 (0) (30) fal) (r_gai : 0 ≤ gai.toInt ∧ gai.toInt ≤ 100) (r_day : 0 ≤ day.toInt ∧ day.toInt ≤ 400) (r_mar : rg 24 (0) (255) mar) (q0 : 0 ≤ co.toInt) (q1 : co.toInt ≤ 47) (q2 : n.toInt ≤ 60) : KR l yX1_strengthBehind wsX1_strengthBehind { frames := 2, cells := 0, slots := 0, locals := 46 } (dC, dI) (TY cI cZ cQ) (wCor cI cZ cQ a top str gho ghs pto cro pla wal fal tel gai day mar) [.ref (a 4), .int co, .int n, .int wd] (fun r : Int32 => (0 ≤ r.toInt) ∧ (r.toInt ≤ 100)) := by
  refine Met.ofW (cc := cX1_strengthBehind) (maxL := 6) (ret := (some .int)) (by decide) rfl ?_
  intro p e s m args below meth c s₁ B hml hv
  obtain ⟨rfl, hP, hK, hN⟩ := hv
  have hx := B.exec
  have hb := B.bytes
  have hr := B.returns
  have hts := atoms_spec (ws := wsX1_strengthBehind) B.pre
  have hown : s.vm.findClass RX1 = some m.cls := findClass_of_methodNamed B.named
  have hlocks := B.notSynchronized
  have lf15 := hts (.fieldLink RX1 15 "PalaceOfRooms$Corners" "strength" "[I") (by decide +kernel)
  have inX1 : ∀ w ∈ wsX10, w ∈ wsX1_strengthBehind := by decide +kernel
  have lf27 := hts (.fieldLink RX1 27 "PalaceOfRooms$Corners" "crowd" "[I") (by decide +kernel)
  have hl := lv_entry ([.ref (a 4), .int co, .int n, .int wd]) (n := 6) (Nat.le_of_ble_eq_true rfl)
  rw [lg_entry_eq]
  generalize (lg_sl ([.ref (a 4), .int co, .int n, .int wd]) ++ List.replicate (6 - (lg_sl ([.ref (a 4), .int co, .int n, .int wd])).length) Slot.unset).toArray = ls at hl ⊢
  have hl : lv_has ls 6 [(0, .ref (a 4)), (1, .int co), (2, .int n), (3, .int wd)] := hl
  refine lv_aload_n hx hb dX1_strengthBehind_0 rfl (lv_at hl 0 rfl) ?_
  refine va_get (D := (dC, dI)) (ci := 1) (v := .ref (a 6)) (C := RX1) (T := TX1) (N := 13) hx hb hts inX1 hown hK hP 0 rfl rfl 2 (by decide) lf15 (fun _ h9 => h9) rfl dX1_strengthBehind_1 ?_
  refine lv_iload_n hx hb dX1_strengthBehind_4 rfl (lv_at hl 1 rfl) ?_
  have b1 : vp_in co 48 := inC rfl (by omega) (by omega)
  refine va_iald hx hb hK hP 2 0 rfl rfl b1 dX1_strengthBehind_5 ?_
  have g2 : 0 ≤ (str co.toNatClampNeg).toInt ∧ (str co.toNatClampNeg).toInt ≤ 100 := rg_at r_str b1
  refine lv_topi (fun x3 ex3 => ?_)
  have ix3 : x3.toInt = (str co.toNatClampNeg).toInt := by rw [ex3]
  refine lv_istore (lv' := [(4, .int x3), (0, .ref (a 4)), (1, .int co), (2, .int n), (3, .int wd)]) hx hb dX1_strengthBehind_6 hl (by decide) rfl (fun ls hl => ?_)
  refine lv_iconst (v := 0) hx hb dX1_strengthBehind_8 (by decide) ?_
  refine lv_istore (lv' := [(5, .int 0), (4, .int x3), (0, .ref (a 4)), (1, .int co), (2, .int n), (3, .int wd)]) hx hb dX1_strengthBehind_9 hl (by decide) rfl (fun ls hl => ?_)
  have L11 : ∀ (nn : Nat) (y11_4 : Int32) (y11_5 : Int32) (ls : Array Slot), (0 ≤ (y11_5.toInt)) → ((y11_5.toInt) ≤ 60) → (0 ≤ (y11_4.toInt)) → ((y11_4.toInt) ≤ 100) → (60 - (y11_5.toInt)).toNat < nn → lv_has ls 6 [(0, .ref (a 4)), (1, .int co), (2, .int n), (3, .int wd), (4, .int y11_4), (5, .int y11_5)] → W p l e (headSpec wsX1_strengthBehind { frames := 2, cells := 0, slots := 0, locals := 46 }).room s m ([.ref (a 4), .int co, .int n, .int wd] : List Value).toArray below meth c s.heap [] 0 0 (MQ below (QR (fun r : Int32 => (0 ≤ r.toInt) ∧ (r.toInt ≤ 100))) ([.ref (a 4), .int co, .int n, .int wd] : List Value).toArray s 0 0 (fun _ => False)) (F0 m 11 ls []) := by
    intro nn
    induction nn with
    | zero =>
      intro y11_4 y11_5 ls i11_0 i11_1 i11_2 i11_3 hm
      exact absurd hm (Nat.not_lt_zero _)
    | succ nn ih11 =>
      intro y11_4 y11_5 ls i11_0 i11_1 i11_2 i11_3 hm hl
      refine lv_iload hx hb dX1_strengthBehind_11 (lv_at hl 5 rfl) ?_
      refine lv_iload_n hx hb dX1_strengthBehind_13 rfl (lv_at hl 2 rfl) ?_
      refine lv_icmp_ge (tgt := 58) hx hb dX1_strengthBehind_14 (by decide) (fun c4 => ?_) (fun c4 => ?_)
      · have dc4 : n.toInt ≤ y11_5.toInt := leC rfl rfl c4
        refine lv_iload hx hb dX1_strengthBehind_58 (lv_at hl 4 rfl) ?_
        exact W.iret (v := y11_4) hx hb hr (fun t ht hW => ⟨y11_4, rfl, ⟨(show 0 ≤ y11_4.toInt from by omega), (show y11_4.toInt ≤ 100 from by omega)⟩, ht⟩) (fun q h => by cases h) dX1_strengthBehind_60
      · have dc4 : y11_5.toInt < n.toInt := nleC rfl rfl c4
        refine lv_iload_n hx hb dX1_strengthBehind_17 rfl (lv_at hl 3 rfl) ?_
        refine lv_iload hx hb dX1_strengthBehind_18 (lv_at hl 5 rfl) ?_
        refine lv_ishr hx hb dX1_strengthBehind_20 ?_
        refine lv_iconst (v := 1) hx hb dX1_strengthBehind_21 (by decide) ?_
        refine lv_iand hx hb dX1_strengthBehind_22 ?_
        have f5 := andR (a := (wd >>> (y11_5 &&& 31))) (m := 1) (M := 1) rfl (by decide)
        refine lv_iconst (v := 1) hx hb dX1_strengthBehind_23 (by decide) ?_
        refine lv_icmp_ne (tgt := 38) hx hb dX1_strengthBehind_24 (by decide) (fun c6 => ?_) (fun c6 => ?_)
        · have dc6 : ((wd >>> (y11_5 &&& 31)) &&& 1).toInt ≠ 1 := neC rfl (show (1 : Int32).toInt = 1 from rfl) c6
          refine lv_aload_n hx hb dX1_strengthBehind_38 rfl (lv_at hl 0 rfl) ?_
          refine lv_iload hx hb dX1_strengthBehind_39 (lv_at hl 4 rfl) ?_
          refine lv_aload_n hx hb dX1_strengthBehind_41 rfl (lv_at hl 0 rfl) ?_
          refine va_get (D := (dC, dI)) (ci := 1) (v := .ref (a 10)) (C := RX1) (T := TX1) (N := 13) hx hb hts inX1 hown hK hP 0 rfl rfl 6 (by decide) lf27 (fun _ h9 => h9) rfl dX1_strengthBehind_42 ?_
          refine lv_iload_n hx hb dX1_strengthBehind_45 rfl (lv_at hl 1 rfl) ?_
          have b7 : vp_in co 48 := inC rfl (by omega) (by omega)
          refine va_iald hx hb hK hP 6 0 rfl rfl b7 dX1_strengthBehind_46 ?_
          have g8 : 0 ≤ (cro co.toNatClampNeg).toInt ∧ (cro co.toNatClampNeg).toInt ≤ 6 := rg_at r_cro b7
          refine rdV (As := [.int y11_4, .int (cro co.toNatClampNeg)]) (rest := []) ⟨hx, hb, hml, hown, hts⟩ (k_X1_fallen l dC dI cI cZ cQ a top str gho ghs pto cro pla wal fal tel gai day mar y11_4 (cro co.toNatClampNeg) r_top r_str r_gho r_ghs r_cro r_pla r_fal r_gai r_day r_mar (by omega) (by omega) (by omega) (by omega)) (cwV 2 hts gX1_strengthBehind_X1_fallen rfl rfl rfl (by decide +kernel) ⟨Nat.le_of_ble_eq_true rfl, Nat.le_of_ble_eq_true rfl⟩) hP hK hN [0, 1, 2, 3, 4, 5, 6, 7, 8, 9, 10, 11] rfl 0 1 rfl rfl rfl hl.1 rfl (Nat.le_of_ble_eq_true rfl) dX1_strengthBehind_47 ⟨Nat.le_of_ble_eq_true rfl, Nat.le_of_ble_eq_true rfl⟩ (fun r9 h10 => ?_)
          have h10 : (0 ≤ r9.toInt) ∧ (r9.toInt ≤ y11_4.toInt) ∧ (r9.toInt ≤ 100) := h10
          obtain ⟨h10_0, h10_1, h10_2⟩ := h10
          refine lv_istore (lv' := [(4, .int r9), (0, .ref (a 4)), (1, .int co), (2, .int n), (3, .int wd), (5, .int y11_5)]) hx hb dX1_strengthBehind_50 hl (by decide) rfl (fun ls hl => ?_)
          obtain ⟨z11, ez11⟩ : ∃ y : Int32, y = y11_5 + 1 := ⟨_, rfl⟩
          have iz11 : z11.toInt = y11_5.toInt + 1 := by rw [ez11]; exact addC rfl rfl (by omega) (by omega)
          refine lv_iinc (v := z11) (lv' := [(5, .int z11), (4, .int r9), (0, .ref (a 4)), (1, .int co), (2, .int n), (3, .int wd)]) hx hb dX1_strengthBehind_52 hl (k := 5) rfl (by rw [ez11]; rfl) (by decide) rfl (fun ls hl => ?_)
          refine lv_goto (tgt := 11) hx hb dX1_strengthBehind_55 (by decide) ?_
          exact ih11 r9 z11 _ (by omega) (by omega) (by omega) (by omega) (by omega) (lv_sub hl [2, 3, 4, 5, 1, 0] rfl)
        · have dc6 : ((wd >>> (y11_5 &&& 31)) &&& 1).toInt = 1 := eqC rfl (show (1 : Int32).toInt = 1 from rfl) c6
          refine lv_iload hx hb dX1_strengthBehind_27 (lv_at hl 4 rfl) ?_
          refine lv_aload_n hx hb dX1_strengthBehind_29 rfl (lv_at hl 0 rfl) ?_
          refine lv_iload hx hb dX1_strengthBehind_30 (lv_at hl 4 rfl) ?_
          refine rdV (As := [.int y11_4]) (rest := [.int y11_4]) ⟨hx, hb, hml, hown, hts⟩ (k_X1_gainOf l dC dI cI cZ cQ a top str gho ghs pto cro pla wal fal tel gai day mar y11_4 r_top r_str r_gho r_ghs r_cro r_pla r_fal r_gai r_day r_mar (by omega) (by omega)) (cwV 1 hts gX1_strengthBehind_X1_gainOf rfl rfl rfl (by decide +kernel) ⟨Nat.le_of_ble_eq_true rfl, Nat.le_of_ble_eq_true rfl⟩) hP hK hN [0, 1, 2, 3, 4, 5, 6, 7, 8, 9, 10, 11] rfl 0 1 rfl rfl rfl hl.1 rfl (Nat.le_of_ble_eq_true rfl) dX1_strengthBehind_32 ⟨Nat.le_of_ble_eq_true rfl, Nat.le_of_ble_eq_true rfl⟩ (fun r12 h13 => ?_)
          have h13 : (0 ≤ r12.toInt) ∧ (r12.toInt ≤ 100 - y11_4.toInt) ∧ (r12.toInt ≤ 100) := h13
          obtain ⟨h13_0, h13_1, h13_2⟩ := h13
          refine lv_iadd hx hb dX1_strengthBehind_35 ?_
          have f14 : (y11_4 + r12).toInt = (y11_4.toInt) + (r12.toInt) := addC rfl rfl (by omega) (by omega)
          refine lv_topi (fun x15 ex15 => ?_)
          have ix15 : x15.toInt = (y11_4.toInt) + (r12.toInt) := by rw [ex15]; exact f14
          refine lv_istore (lv' := [(4, .int x15), (0, .ref (a 4)), (1, .int co), (2, .int n), (3, .int wd), (5, .int y11_5)]) hx hb dX1_strengthBehind_36 hl (by decide) rfl (fun ls hl => ?_)
          refine lv_aload_n hx hb dX1_strengthBehind_38 rfl (lv_at hl 1 rfl) ?_
          refine lv_iload hx hb dX1_strengthBehind_39 (lv_at hl 0 rfl) ?_
          refine lv_aload_n hx hb dX1_strengthBehind_41 rfl (lv_at hl 1 rfl) ?_
          refine va_get (D := (dC, dI)) (ci := 1) (v := .ref (a 10)) (C := RX1) (T := TX1) (N := 13) hx hb hts inX1 hown hK hP 0 rfl rfl 6 (by decide) lf27 (fun _ h9 => h9) rfl dX1_strengthBehind_42 ?_
          refine lv_iload_n hx hb dX1_strengthBehind_45 rfl (lv_at hl 2 rfl) ?_
          have b16 : vp_in co 48 := inC rfl (by omega) (by omega)
          refine va_iald hx hb hK hP 6 0 rfl rfl b16 dX1_strengthBehind_46 ?_
          have g17 : 0 ≤ (cro co.toNatClampNeg).toInt ∧ (cro co.toNatClampNeg).toInt ≤ 6 := rg_at r_cro b16
          refine rdV (As := [.int x15, .int (cro co.toNatClampNeg)]) (rest := []) ⟨hx, hb, hml, hown, hts⟩ (k_X1_fallen l dC dI cI cZ cQ a top str gho ghs pto cro pla wal fal tel gai day mar x15 (cro co.toNatClampNeg) r_top r_str r_gho r_ghs r_cro r_pla r_fal r_gai r_day r_mar (by omega) (by omega) (by omega) (by omega)) (cwV 2 hts gX1_strengthBehind_X1_fallen rfl rfl rfl (by decide +kernel) ⟨Nat.le_of_ble_eq_true rfl, Nat.le_of_ble_eq_true rfl⟩) hP hK hN [0, 1, 2, 3, 4, 5, 6, 7, 8, 9, 10, 11] rfl 0 1 rfl rfl rfl hl.1 rfl (Nat.le_of_ble_eq_true rfl) dX1_strengthBehind_47 ⟨Nat.le_of_ble_eq_true rfl, Nat.le_of_ble_eq_true rfl⟩ (fun r18 h19 => ?_)
          have h19 : (0 ≤ r18.toInt) ∧ (r18.toInt ≤ x15.toInt) ∧ (r18.toInt ≤ 100) := h19
          obtain ⟨h19_0, h19_1, h19_2⟩ := h19
          refine lv_istore (lv' := [(4, .int r18), (0, .ref (a 4)), (1, .int co), (2, .int n), (3, .int wd), (5, .int y11_5)]) hx hb dX1_strengthBehind_50 hl (by decide) rfl (fun ls hl => ?_)
          obtain ⟨z20, ez20⟩ : ∃ y : Int32, y = y11_5 + 1 := ⟨_, rfl⟩
          have iz20 : z20.toInt = y11_5.toInt + 1 := by rw [ez20]; exact addC rfl rfl (by omega) (by omega)
          refine lv_iinc (v := z20) (lv' := [(5, .int z20), (4, .int r18), (0, .ref (a 4)), (1, .int co), (2, .int n), (3, .int wd)]) hx hb dX1_strengthBehind_52 hl (k := 5) rfl (by rw [ez20]; rfl) (by decide) rfl (fun ls hl => ?_)
          refine lv_goto (tgt := 11) hx hb dX1_strengthBehind_55 (by decide) ?_
          exact ih11 r18 z20 _ (by omega) (by omega) (by omega) (by omega) (by omega) (lv_sub hl [2, 3, 4, 5, 1, 0] rfl)
  have kc21 : (0 : Int32).toInt = 0 := rfl
  exact L11 _ x3 0 _ (by omega) (by omega) (by omega) (by omega) (Nat.lt_succ_self _) (lv_sub hl [2, 3, 4, 5, 1, 0] rfl)
set_option maxHeartbeats 4000000 in
set_option maxRecDepth 100000 in
theorem k_X1_countCrowds (l : Launch) (dC : Nat → ClassId) (dI : Nat → Nat → Nat) (cI cZ cQ : ClassId) (a : Nat → Nat) (top : Nat → Int32) (str : Nat → Int32) (gho : Nat → Int32) (ghs : Nat → Int32) (pto : Nat → Int32) (cro : Nat → Int32) (pla : Nat → Int32) (wal : Nat → Int32) (fal : Nat → Int32) (tel : Int32) (gai : Int32) (day : Int32) (mar : Nat → Int32) (sz : Nat) (r_top : rg 48 (-1) (23) top) (r_str : rg 48 (0) (100) str) (r_gho : rg 48 (-1) (23) gho) (r_ghs : rg 48 (0) (100) ghs) (r_cro : rg 48 (0) (6) cro) (r_pla : rg 24 (-1) (47) pla) (r_fal : rg 11 (0) (30) fal) (r_gai : 0 ≤ gai.toInt ∧ gai.toInt ≤ 100) (r_day : 0 ≤ day.toInt ∧ day.toInt ≤ 400) (r_mar : rg 24 (0) (255) mar) : KV l yX1_countCrowds wsX1_countCrowds { frames := 4, cells := 0, slots := 0, locals := 86 } (dC, dI) (TY cI cZ cQ) (wCor cI cZ cQ a top str gho ghs pto cro pla wal fal tel gai day mar) [.ref (a 4)] sz 0 0 (fun (u : US) => (rg 48 (0) (6) (u.1 0))) (fun u : US => (wCor cI cZ cQ a top str gho ghs pto (u.1 0) pla wal fal tel gai day mar)) := by
  refine Met.ofW (cc := cX1_countCrowds) (maxL := 4) (ret := none) (by decide) rfl ?_
  intro p e s m args below meth c s₁ B hml hv
  obtain ⟨rfl, hsz, hP, hK, hD0, hN⟩ := hv
  have hx := B.exec
  have hb := B.bytes
  have hr := B.returns
  have hts := atoms_spec (ws := wsX1_countCrowds) B.pre
  have hown : s.vm.findClass RX1 = some m.cls := findClass_of_methodNamed B.named
  have hlocks := B.notSynchronized
  have lf27 := hts (.fieldLink RX1 27 "PalaceOfRooms$Corners" "crowd" "[I") (by decide +kernel)
  have inX1 : ∀ w ∈ wsX10, w ∈ wsX1_countCrowds := fun w h => List.mem_cons_of_mem _ (List.mem_append_left _ (List.mem_append_right _ h))
  subst hsz
  have hD := hD0.self (sz := s.heap.size)
  generalize hAe : va_A (wCor cI cZ cQ a top str gho ghs pto cro pla wal fal tel gai day mar) s.heap.size = A at hD ⊢
  have hA : ∀ q : Nat, s.heap.size ≤ q → A q := fun q h => by rw [← hAe]; exact Or.inr h
  have hS : va_S A s.heap s.heap [] := va_S.rf
  have hl := lv_entry ([.ref (a 4)]) (n := 4) (Nat.le_of_ble_eq_true rfl)
  rw [lg_entry_eq]
  generalize (lg_sl ([.ref (a 4)]) ++ List.replicate (4 - (lg_sl ([.ref (a 4)])).length) Slot.unset).toArray = ls at hl ⊢
  have hl : lv_has ls 4 [(0, .ref (a 4))] := hl
  refine lv_iconst (v := 0) hx hb dX1_countCrowds_0 (by decide) ?_
  refine lv_istore_n (lv' := [(1, .int 0), (0, .ref (a 4))]) hx hb dX1_countCrowds_1 rfl hl (by decide) rfl (fun ls hl => ?_)
  have L2 : ∀ (nn : Nat) (y2_1 : Int32) (cro_2 : Nat → Int32) (H : Heap) (locs : List Loc) (ls : Array Slot), (rg 48 (0) (6) cro_2) → (0 ≤ (y2_1.toInt)) → ((y2_1.toInt) ≤ 48) → (48 - (y2_1.toInt)).toNat < nn → va_P (dC, dI) vwCl (wCor cI cZ cQ a top str gho ghs pto cro_2 pla wal fal tel gai day mar) H → va_D A (wCor cI cZ cQ a top str gho ghs pto cro_2 pla wal fal tel gai day mar) → va_S A s.heap H locs → lv_has ls 4 [(0, .ref (a 4)), (1, .int y2_1)] → W p l e (headSpec wsX1_countCrowds { frames := 4, cells := 0, slots := 0, locals := 86 }).room s m ([.ref (a 4)] : List Value).toArray below meth c H locs 0 0 (MQ below (va_Qv (fun (u : US) => (rg 48 (0) (6) (u.1 0))) (Bw (dC, dI) A (fun u : US => (wCor cI cZ cQ a top str gho ghs pto (u.1 0) pla wal fal tel gai day mar))) A) ([.ref (a 4)] : List Value).toArray s 0 0 A) (F0 m 2 ls []) := by
    intro nn
    induction nn with
    | zero =>
      intro y2_1 cro_2 H locs ls r_cro_2 i2_0 i2_1 hm
      exact absurd hm (Nat.not_lt_zero _)
    | succ nn ih2 =>
      intro y2_1 cro_2 H locs ls r_cro_2 i2_0 i2_1 hm hP hD hS hl
      refine lv_iload_n hx hb dX1_countCrowds_2 rfl (lv_at hl 1 rfl) ?_
      refine lv_bipush (v := 48) hx hb dX1_countCrowds_3 (by decide) ?_
      refine lv_icmp_ge (tgt := 63) hx hb dX1_countCrowds_5 (by decide) (fun c1 => ?_) (fun c1 => ?_)
      · have dc1 : 48 ≤ y2_1.toInt := leC (show (48 : Int32).toInt = 48 from rfl) rfl c1
        exact W.vret hx hb hr (fun t ht hW => ⟨⟨(uS [cro_2] 0 (fun _ => 0)), rfl, r_cro_2, by rw [ht]; exact hP, hD⟩, hS.F ht⟩) hS.2.2 dX1_countCrowds_63
      · have dc1 : y2_1.toInt < 48 := nleC (show (48 : Int32).toInt = 48 from rfl) rfl c1
        refine lv_aload_n hx hb dX1_countCrowds_8 rfl (lv_at hl 0 rfl) ?_
        refine va_get (D := (dC, dI)) (ci := 1) (v := .ref (a 10)) (C := RX1) (T := TX1) (N := 13) hx hb hts inX1 hown hK hP 0 rfl rfl 6 (by decide) lf27 (fun _ h9 => h9) rfl dX1_countCrowds_9 ?_
        refine lv_iload_n hx hb dX1_countCrowds_12 rfl (lv_at hl 1 rfl) ?_
        refine lv_iconst (v := 0) hx hb dX1_countCrowds_13 (by decide) ?_
        have b2 : vp_in y2_1 48 := inC rfl (by omega) (by omega)
        have g3 : rg 48 (0) (6) (upd cro_2 y2_1.toNatClampNeg 0) := rg_upd r_cro_2 (show (0 : Int32).toInt = 0 from rfl) (by omega) (by omega)
        refine va_iast hx hb hK hP hD hS 6 0 rfl rfl b2 dX1_countCrowds_14 (fun H locs hP hD hS => ?_)
        obtain ⟨cro_u4, ecro_u4⟩ : ∃ f : Nat → Int32, f = upd cro_2 y2_1.toNatClampNeg 0 := ⟨_, rfl⟩
        have rcro_u4 : rg 48 (0) (6) cro_u4 := by rw [ecro_u4]; exact g3
        have hP : va_P (dC, dI) vwCl (wCor cI cZ cQ a top str gho ghs pto cro_u4 pla wal fal tel gai day mar) H := by rw [ecro_u4]; exact hP
        have hD : va_D A (wCor cI cZ cQ a top str gho ghs pto cro_u4 pla wal fal tel gai day mar) := by rw [ecro_u4]; exact hD
        refine lv_iload_n hx hb dX1_countCrowds_15 rfl (lv_at hl 1 rfl) ?_
        refine lv_iload_n hx hb dX1_countCrowds_16 rfl (lv_at hl 1 rfl) ?_
        refine lv_bipush (v := 6) hx hb dX1_countCrowds_17 (by decide) ?_
        refine lv_irem hx hb dX1_countCrowds_19 (by decide) ?_
        have f5 : (y2_1 - y2_1 / 6 * 6).toInt = (y2_1.toInt) % (6) := remC rfl (show (6 : Int32).toInt = 6 from rfl) (by omega) (by omega)
        refine lv_isub hx hb dX1_countCrowds_20 ?_
        have f6 : (y2_1 - (y2_1 - y2_1 / 6 * 6)).toInt = (y2_1.toInt) - ((y2_1.toInt) % (6)) := subC rfl f5 (by omega) (by omega)
        refine lv_topi (fun x7 ex7 => ?_)
        have ix7 : x7.toInt = (y2_1.toInt) - ((y2_1.toInt) % (6)) := by rw [ex7]; exact f6
        refine lv_istore_n (lv' := [(2, .int x7), (0, .ref (a 4)), (1, .int y2_1)]) hx hb dX1_countCrowds_21 rfl hl (by decide) rfl (fun ls hl => ?_)
        refine lv_iload_n hx hb dX1_countCrowds_22 rfl (lv_at hl 0 rfl) ?_
        refine lv_istore_n (lv' := [(3, .int x7), (2, .int x7), (0, .ref (a 4)), (1, .int y2_1)]) hx hb dX1_countCrowds_23 rfl hl (by decide) rfl (fun ls hl => ?_)
        have L24 : ∀ (nn : Nat) (y24_3 : Int32) (cro_24 : Nat → Int32) (H : Heap) (locs : List Loc) (ls : Array Slot), (rg 48 (0) (6) cro_24) → (-5 ≤ (y24_3.toInt)) → ((y24_3.toInt) ≤ 53) → ((cro_24 y2_1.toNatClampNeg).toInt ≤ (y24_3.toInt) - (x7.toInt)) → ((x7.toInt) ≤ (y24_3.toInt)) → (53 - (y24_3.toInt)).toNat < nn → va_P (dC, dI) vwCl (wCor cI cZ cQ a top str gho ghs pto cro_24 pla wal fal tel gai day mar) H → va_D A (wCor cI cZ cQ a top str gho ghs pto cro_24 pla wal fal tel gai day mar) → va_S A s.heap H locs → lv_has ls 4 [(0, .ref (a 4)), (1, .int y2_1), (2, .int x7), (3, .int y24_3)] → W p l e (headSpec wsX1_countCrowds { frames := 4, cells := 0, slots := 0, locals := 86 }).room s m ([.ref (a 4)] : List Value).toArray below meth c H locs 0 0 (MQ below (va_Qv (fun (u : US) => (rg 48 (0) (6) (u.1 0))) (Bw (dC, dI) A (fun u : US => (wCor cI cZ cQ a top str gho ghs pto (u.1 0) pla wal fal tel gai day mar))) A) ([.ref (a 4)] : List Value).toArray s 0 0 A) (F0 m 24 ls []) := by
          intro nn
          induction nn with
          | zero =>
            intro y24_3 cro_24 H locs ls r_cro_24 i24_0 i24_1 i24_2 i24_3 hm
            exact absurd hm (Nat.not_lt_zero _)
          | succ nn ih24 =>
            intro y24_3 cro_24 H locs ls r_cro_24 i24_0 i24_1 i24_2 i24_3 hm hP hD hS hl
            refine lv_iload_n hx hb dX1_countCrowds_24 rfl (lv_at hl 3 rfl) ?_
            refine lv_iload_n hx hb dX1_countCrowds_25 rfl (lv_at hl 2 rfl) ?_
            refine lv_bipush (v := 6) hx hb dX1_countCrowds_26 (by decide) ?_
            refine lv_iadd hx hb dX1_countCrowds_28 ?_
            have f8 : (x7 + 6).toInt = (x7.toInt) + (6) := addC rfl (show (6 : Int32).toInt = 6 from rfl) (by omega) (by omega)
            refine lv_icmp_ge (tgt := 57) hx hb dX1_countCrowds_29 (by decide) (fun c9 => ?_) (fun c9 => ?_)
            · have dc9 : (x7.toInt) + (6) ≤ y24_3.toInt := leC f8 rfl c9
              obtain ⟨z10, ez10⟩ : ∃ y : Int32, y = y2_1 + 1 := ⟨_, rfl⟩
              have iz10 : z10.toInt = y2_1.toInt + 1 := by rw [ez10]; exact addC rfl rfl (by omega) (by omega)
              refine lv_iinc (v := z10) (lv' := [(1, .int z10), (0, .ref (a 4)), (2, .int x7), (3, .int y24_3)]) hx hb dX1_countCrowds_57 hl (k := 1) rfl (by rw [ez10]; rfl) (by decide) rfl (fun ls hl => ?_)
              refine lv_goto (tgt := 2) hx hb dX1_countCrowds_60 (by decide) ?_
              exact ih2 z10 cro_24 _ _ _ r_cro_24 (by omega) (by omega) (by omega) hP hD hS (lv_sub hl [1, 0] rfl)
            · have dc9 : y24_3.toInt < (x7.toInt) + (6) := nleC f8 rfl c9
              refine lv_aload_n hx hb dX1_countCrowds_32 rfl (lv_at hl 0 rfl) ?_
              refine lv_iload_n hx hb dX1_countCrowds_33 rfl (lv_at hl 3 rfl) ?_
              refine lv_iload_n hx hb dX1_countCrowds_34 rfl (lv_at hl 1 rfl) ?_
              refine rdV (As := [.int y24_3, .int y2_1]) (rest := []) ⟨hx, hb, hml, hown, hts⟩ (k_X1_crowds l dC dI cI cZ cQ a top str gho ghs pto cro_24 pla wal fal tel gai day mar y24_3 y2_1 r_top r_str r_gho r_ghs r_cro_24 r_pla r_fal r_gai r_day r_mar (by omega) (by omega) (by omega) (by omega)) (cwV 2 hts gX1_countCrowds_X1_crowds rfl rfl rfl (by decide +kernel) ⟨Nat.le_of_ble_eq_true rfl, Nat.le_of_ble_eq_true rfl⟩) hP hK hN [0, 1, 2, 3, 4, 5, 6, 7, 8, 9, 10, 11] rfl 0 1 rfl rfl rfl hl.1 rfl (Nat.le_of_ble_eq_true rfl) dX1_countCrowds_35 ⟨Nat.le_of_ble_eq_true rfl, Nat.le_of_ble_eq_true rfl⟩ (fun r11 h12 => ?_)
              have h12 : ((((r11 = 1)) ∨ ((r11 = 0)))) := h12
              rcases h12 with (rfl | rfl)
              · refine lv_if_eq (tgt := 51) hx hb dX1_countCrowds_38 (by decide) (fun c9 => absurd c9 (by decide)) (fun _ => ?_)
                refine lv_aload_n hx hb dX1_countCrowds_41 rfl (lv_at hl 0 rfl) ?_
                refine va_get (D := (dC, dI)) (ci := 1) (v := .ref (a 10)) (C := RX1) (T := TX1) (N := 13) hx hb hts inX1 hown hK hP 0 rfl rfl 6 (by decide) lf27 (fun _ h9 => h9) rfl dX1_countCrowds_42 ?_
                refine lv_iload_n hx hb dX1_countCrowds_45 rfl (lv_at hl 1 rfl) ?_
                refine lv_dup2_11 hx hb dX1_countCrowds_46 rfl rfl ?_
                have b13 : vp_in y2_1 48 := inC rfl (by omega) (by omega)
                refine va_iald hx hb hK hP 6 0 rfl rfl b13 dX1_countCrowds_47 ?_
                have g14 : 0 ≤ (cro_24 y2_1.toNatClampNeg).toInt ∧ (cro_24 y2_1.toNatClampNeg).toInt ≤ 6 := rg_at r_cro_24 b13
                refine lv_iconst (v := 1) hx hb dX1_countCrowds_48 (by decide) ?_
                refine lv_iadd hx hb dX1_countCrowds_49 ?_
                have f15 : ((cro_24 y2_1.toNatClampNeg) + 1).toInt = ((cro_24 y2_1.toNatClampNeg).toInt) + (1) := addC rfl (show (1 : Int32).toInt = 1 from rfl) (by omega) (by omega)
                refine lv_topi (fun x16 ex16 => ?_)
                have ix16 : x16.toInt = ((cro_24 y2_1.toNatClampNeg).toInt) + (1) := by rw [ex16]; exact f15
                have b17 : vp_in y2_1 48 := inC rfl (by omega) (by omega)
                have g18 : rg 48 (0) (6) (upd cro_24 y2_1.toNatClampNeg x16) := rg_upd r_cro_24 rfl (by omega) (by omega)
                refine va_iast hx hb hK hP hD hS 6 0 rfl rfl b17 dX1_countCrowds_50 (fun H locs hP hD hS => ?_)
                obtain ⟨cro_u19, ecro_u19⟩ : ∃ f : Nat → Int32, f = upd cro_24 y2_1.toNatClampNeg x16 := ⟨_, rfl⟩
                have rcro_u19 : rg 48 (0) (6) cro_u19 := by rw [ecro_u19]; exact g18
                have hP : va_P (dC, dI) vwCl (wCor cI cZ cQ a top str gho ghs pto cro_u19 pla wal fal tel gai day mar) H := by rw [ecro_u19]; exact hP
                have hD : va_D A (wCor cI cZ cQ a top str gho ghs pto cro_u19 pla wal fal tel gai day mar) := by rw [ecro_u19]; exact hD
                obtain ⟨z20, ez20⟩ : ∃ y : Int32, y = y24_3 + 1 := ⟨_, rfl⟩
                have iz20 : z20.toInt = y24_3.toInt + 1 := by rw [ez20]; exact addC rfl rfl (by omega) (by omega)
                refine lv_iinc (v := z20) (lv' := [(3, .int z20), (0, .ref (a 4)), (1, .int y2_1), (2, .int x7)]) hx hb dX1_countCrowds_51 hl (k := 3) rfl (by rw [ez20]; rfl) (by decide) rfl (fun ls hl => ?_)
                refine lv_goto (tgt := 24) hx hb dX1_countCrowds_54 (by decide) ?_
                exact ih24 z20 cro_u19 _ _ _ rcro_u19 (by omega) (by omega) (by (first | omega | (subst_vars; simp only [pk_us, Int32.toInt_zero]; omega))) (by omega) (by omega) hP hD hS (lv_sub hl [1, 2, 3, 0] rfl)
              · refine lv_if_eq (tgt := 51) hx hb dX1_countCrowds_38 (by decide) (fun _ => ?_) (fun c9 => absurd (by decide) c9)
                obtain ⟨z21, ez21⟩ : ∃ y : Int32, y = y24_3 + 1 := ⟨_, rfl⟩
                have iz21 : z21.toInt = y24_3.toInt + 1 := by rw [ez21]; exact addC rfl rfl (by omega) (by omega)
                refine lv_iinc (v := z21) (lv' := [(3, .int z21), (0, .ref (a 4)), (1, .int y2_1), (2, .int x7)]) hx hb dX1_countCrowds_51 hl (k := 3) rfl (by rw [ez21]; rfl) (by decide) rfl (fun ls hl => ?_)
                refine lv_goto (tgt := 24) hx hb dX1_countCrowds_54 (by decide) ?_
                exact ih24 z21 cro_24 _ _ _ r_cro_24 (by omega) (by omega) (by (first | omega | (subst_vars; simp only [pk_us, Int32.toInt_zero]; omega))) (by omega) (by omega) hP hD hS (lv_sub hl [1, 2, 3, 0] rfl)
        exact L24 _ x7 cro_u4 _ _ _ rcro_u4 (by omega) (by omega) (by (first | omega | (subst_vars; simp only [pk_us, Int32.toInt_zero]; omega))) (by omega) (Nat.lt_succ_self _) hP hD hS (lv_sub hl [2, 3, 1, 0] rfl)
  have kc22 : (0 : Int32).toInt = 0 := rfl
  exact L2 _ 0 cro _ _ _ r_cro (by omega) (by omega) (Nat.lt_succ_self _) hP hD hS (lv_sub hl [1, 0] rfl)
set_option maxHeartbeats 4000000 in
set_option maxRecDepth 100000 in
theorem k_X1_standingIn (l : Launch) (dC : Nat → ClassId) (dI : Nat → Nat → Nat) (cI cZ cQ : ClassId) (a : Nat → Nat) (top : Nat → Int32) (str : Nat → Int32) (gho : Nat → Int32) (ghs : Nat → Int32) (pto : Nat → Int32) (cro : Nat → Int32) (pla : Nat → Int32) (wal : Nat → Int32) (fal : Nat → Int32) (tel : Int32) (gai : Int32) (day : Int32) (mar : Nat → Int32) (ro : Int32) (r_top : rg 48 (-1) (23) top) (r_str : rg 48 (0) (100) str) (r_gho : rg 48 (-1) (23) gho) (r_ghs : rg 48 (0) (100) ghs) (r_cro : rg 48 (0) (6) cro) (r_pla : rg 24 (-1) (47) pla) (r_fal : rg 11 (0) (30) fal) (r_gai : 0 ≤ gai.toInt ∧ gai.toInt ≤ 100) (r_day : 0 ≤ day.toInt ∧ day.toInt ≤ 400) (r_mar : rg 24 (0) (255) mar) (q0 : 0 ≤ ro.toInt) (q1 : ro.toInt ≤ 7) : KR l yX1_standingIn wsX1_standingIn { frames := 0, cells := 0, slots := 0, locals := 0 } (dC, dI) (TY cI cZ cQ) (wCor cI cZ cQ a top str gho ghs pto cro pla wal fal tel gai day mar) [.ref (a 4), .int ro] (fun r : Int32 => True) := by
  refine Met.ofW (cc := cX1_standingIn) (maxL := 5) (ret := (some .int)) (by decide) rfl ?_
  intro p e s m args below meth c s₁ B hml hv
  obtain ⟨rfl, hP, hK, hN⟩ := hv
  have hx := B.exec
  have hb := B.bytes
  have hr := B.returns
  have hts := atoms_spec (ws := wsX1_standingIn) B.pre
  have hown : s.vm.findClass RX1 = some m.cls := findClass_of_methodNamed B.named
  have hlocks := B.notSynchronized
  have lf9 := hts (.fieldLink RX1 9 "PalaceOfRooms$Corners" "top" "[I") (by decide +kernel)
  have inX1 : ∀ w ∈ wsX10, w ∈ wsX1_standingIn := by decide +kernel
  have hl := lv_entry ([.ref (a 4), .int ro]) (n := 5) (Nat.le_of_ble_eq_true rfl)
  rw [lg_entry_eq]
  generalize (lg_sl ([.ref (a 4), .int ro]) ++ List.replicate (5 - (lg_sl ([.ref (a 4), .int ro])).length) Slot.unset).toArray = ls at hl ⊢
  have hl : lv_has ls 5 [(0, .ref (a 4)), (1, .int ro)] := hl
  refine lv_iconst (v := 0) hx hb dX1_standingIn_0 (by decide) ?_
  refine lv_istore_n (lv' := [(2, .int 0), (0, .ref (a 4)), (1, .int ro)]) hx hb dX1_standingIn_1 rfl hl (by decide) rfl (fun ls hl => ?_)
  refine lv_iload_n hx hb dX1_standingIn_2 rfl (lv_at hl 2 rfl) ?_
  refine lv_bipush (v := 6) hx hb dX1_standingIn_3 (by decide) ?_
  refine lv_imul hx hb dX1_standingIn_5 ?_
  have f1 : (ro * 6).toInt = (ro.toInt) * (6) := mulC rfl (show (6 : Int32).toInt = 6 from rfl) (by omega) (by omega)
  refine lv_topi (fun x2 ex2 => ?_)
  have ix2 : x2.toInt = (ro.toInt) * (6) := by rw [ex2]; exact f1
  refine lv_istore_n (lv' := [(3, .int x2), (2, .int 0), (0, .ref (a 4)), (1, .int ro)]) hx hb dX1_standingIn_6 rfl hl (by decide) rfl (fun ls hl => ?_)
  refine lv_iload_n hx hb dX1_standingIn_7 rfl (lv_at hl 0 rfl) ?_
  refine lv_istore (lv' := [(4, .int x2), (3, .int x2), (2, .int 0), (0, .ref (a 4)), (1, .int ro)]) hx hb dX1_standingIn_8 hl (by decide) rfl (fun ls hl => ?_)
  have L10 : ∀ (nn : Nat) (y10_2 : Int32) (y10_4 : Int32) (ls : Array Slot), (0 ≤ (y10_4.toInt)) → ((y10_4.toInt) ≤ 48) → (48 - (y10_4.toInt)).toNat < nn → lv_has ls 5 [(0, .ref (a 4)), (2, .int y10_2), (3, .int x2), (4, .int y10_4)] → W p l e (headSpec wsX1_standingIn { frames := 0, cells := 0, slots := 0, locals := 0 }).room s m ([.ref (a 4), .int ro] : List Value).toArray below meth c s.heap [] 0 0 (MQ below (QR (fun r : Int32 => True)) ([.ref (a 4), .int ro] : List Value).toArray s 0 0 (fun _ => False)) (F0 m 10 ls []) := by
    intro nn
    induction nn with
    | zero =>
      intro y10_2 y10_4 ls i10_0 i10_1 hm
      exact absurd hm (Nat.not_lt_zero _)
    | succ nn ih10 =>
      intro y10_2 y10_4 ls i10_0 i10_1 hm hl
      refine lv_iload hx hb dX1_standingIn_10 (lv_at hl 3 rfl) ?_
      refine lv_iload_n hx hb dX1_standingIn_12 rfl (lv_at hl 2 rfl) ?_
      refine lv_bipush (v := 6) hx hb dX1_standingIn_13 (by decide) ?_
      refine lv_iadd hx hb dX1_standingIn_15 ?_
      have f3 : (x2 + 6).toInt = (x2.toInt) + (6) := addC rfl (show (6 : Int32).toInt = 6 from rfl) (by omega) (by omega)
      refine lv_icmp_ge (tgt := 39) hx hb dX1_standingIn_16 (by decide) (fun c4 => ?_) (fun c4 => ?_)
      · have dc4 : (x2.toInt) + (6) ≤ y10_4.toInt := leC f3 rfl c4
        refine lv_iload_n hx hb dX1_standingIn_39 rfl (lv_at hl 1 rfl) ?_
        exact W.iret (v := y10_2) hx hb hr (fun t ht hW => ⟨y10_2, rfl, trivial, ht⟩) (fun q h => by cases h) dX1_standingIn_40
      · have dc4 : y10_4.toInt < (x2.toInt) + (6) := nleC f3 rfl c4
        refine lv_aload_n hx hb dX1_standingIn_19 rfl (lv_at hl 0 rfl) ?_
        refine va_get (D := (dC, dI)) (ci := 1) (v := .ref (a 5)) (C := RX1) (T := TX1) (N := 13) hx hb hts inX1 hown hK hP 0 rfl rfl 1 (by decide) lf9 (fun _ h9 => h9) rfl dX1_standingIn_20 ?_
        refine lv_iload hx hb dX1_standingIn_23 (lv_at hl 3 rfl) ?_
        have b5 : vp_in y10_4 48 := inC rfl (by omega) (by omega)
        refine va_iald hx hb hK hP 1 0 rfl rfl b5 dX1_standingIn_25 ?_
        have g6 : -1 ≤ (top y10_4.toNatClampNeg).toInt ∧ (top y10_4.toNatClampNeg).toInt ≤ 23 := rg_at r_top b5
        refine lv_iconst (v := (-1)) hx hb dX1_standingIn_26 (by decide) ?_
        refine lv_icmp_eq (tgt := 33) hx hb dX1_standingIn_27 (by decide) (fun c7 => ?_) (fun c7 => ?_)
        · have dc7 : (top y10_4.toNatClampNeg).toInt = (-1) := eqC rfl (show ((-1) : Int32).toInt = (-1) from rfl) c7
          obtain ⟨z8, ez8⟩ : ∃ y : Int32, y = y10_4 + 1 := ⟨_, rfl⟩
          have iz8 : z8.toInt = y10_4.toInt + 1 := by rw [ez8]; exact addC rfl rfl (by omega) (by omega)
          refine lv_iinc (v := z8) (lv' := [(4, .int z8), (0, .ref (a 4)), (2, .int y10_2), (3, .int x2)]) hx hb dX1_standingIn_33 hl (k := 3) rfl (by rw [ez8]; rfl) (by decide) rfl (fun ls hl => ?_)
          refine lv_goto (tgt := 10) hx hb dX1_standingIn_36 (by decide) ?_
          exact ih10 y10_2 z8 _ (by omega) (by omega) (by omega) (lv_sub hl [1, 2, 3, 0] rfl)
        · have dc7 : (top y10_4.toNatClampNeg).toInt ≠ (-1) := neC rfl (show ((-1) : Int32).toInt = (-1) from rfl) c7
          obtain ⟨z9, ez9⟩ : ∃ y : Int32, y = y10_2 + 1 := ⟨_, rfl⟩
          refine lv_iinc (v := z9) (lv' := [(2, .int z9), (0, .ref (a 4)), (3, .int x2), (4, .int y10_4)]) hx hb dX1_standingIn_30 hl (k := 1) rfl (by rw [ez9]; rfl) (by decide) rfl (fun ls hl => ?_)
          obtain ⟨z10, ez10⟩ : ∃ y : Int32, y = y10_4 + 1 := ⟨_, rfl⟩
          have iz10 : z10.toInt = y10_4.toInt + 1 := by rw [ez10]; exact addC rfl rfl (by omega) (by omega)
          refine lv_iinc (v := z10) (lv' := [(4, .int z10), (2, .int z9), (0, .ref (a 4)), (3, .int x2)]) hx hb dX1_standingIn_33 hl (k := 3) rfl (by rw [ez10]; rfl) (by decide) rfl (fun ls hl => ?_)
          refine lv_goto (tgt := 10) hx hb dX1_standingIn_36 (by decide) ?_
          exact ih10 z9 z10 _ (by omega) (by omega) (by omega) (lv_sub hl [2, 1, 3, 0] rfl)
  have kc11 : (0 : Int32).toInt = 0 := rfl
  exact L10 _ 0 x2 _ (by omega) (by omega) (Nat.lt_succ_self _) (lv_sub hl [3, 2, 1, 0] rfl)
set_option maxHeartbeats 4000000 in
set_option maxRecDepth 100000 in
theorem k_X1_allStrength (l : Launch) (dC : Nat → ClassId) (dI : Nat → Nat → Nat) (cI cZ cQ : ClassId) (a : Nat → Nat) (top : Nat → Int32) (str : Nat → Int32) (gho : Nat → Int32) (ghs : Nat → Int32) (pto : Nat → Int32) (cro : Nat → Int32) (pla : Nat → Int32) (wal : Nat → Int32) (fal : Nat → Int32) (tel : Int32) (gai : Int32) (day : Int32) (mar : Nat → Int32) (r_top : rg 48 (-1) (23) top) (r_str : rg 48 (0) (100) str) (r_gho : rg 48 (-1) (23) gho) (r_ghs : rg 48 (0) (100) ghs) (r_cro : rg 48 (0) (6) cro) (r_pla : rg 24 (-1) (47) pla) (r_fal : rg 11 (0) (30) fal) (r_gai : 0 ≤ gai.toInt ∧ gai.toInt ≤ 100) (r_day : 0 ≤ day.toInt ∧ day.toInt ≤ 400) (r_mar : rg 24 (0) (255) mar) : KR l yX1_allStrength wsX1_allStrength { frames := 0, cells := 0, slots := 0, locals := 0 } (dC, dI) (TY cI cZ cQ) (wCor cI cZ cQ a top str gho ghs pto cro pla wal fal tel gai day mar) [.ref (a 4)] (fun r : Int32 => True) := by
  refine Met.ofW (cc := cX1_allStrength) (maxL := 3) (ret := (some .int)) (by decide) rfl ?_
  intro p e s m args below meth c s₁ B hml hv
  obtain ⟨rfl, hP, hK, hN⟩ := hv
  have hx := B.exec
  have hb := B.bytes
  have hr := B.returns
  have hts := atoms_spec (ws := wsX1_allStrength) B.pre
  have hown : s.vm.findClass RX1 = some m.cls := findClass_of_methodNamed B.named
  have hlocks := B.notSynchronized
  have lf9 := hts (.fieldLink RX1 9 "PalaceOfRooms$Corners" "top" "[I") (by decide +kernel)
  have inX1 : ∀ w ∈ wsX10, w ∈ wsX1_allStrength := by decide +kernel
  have lf15 := hts (.fieldLink RX1 15 "PalaceOfRooms$Corners" "strength" "[I") (by decide +kernel)
  have hl := lv_entry ([.ref (a 4)]) (n := 3) (Nat.le_of_ble_eq_true rfl)
  rw [lg_entry_eq]
  generalize (lg_sl ([.ref (a 4)]) ++ List.replicate (3 - (lg_sl ([.ref (a 4)])).length) Slot.unset).toArray = ls at hl ⊢
  have hl : lv_has ls 3 [(0, .ref (a 4))] := hl
  refine lv_iconst (v := 0) hx hb dX1_allStrength_0 (by decide) ?_
  refine lv_istore_n (lv' := [(1, .int 0), (0, .ref (a 4))]) hx hb dX1_allStrength_1 rfl hl (by decide) rfl (fun ls hl => ?_)
  refine lv_iconst (v := 0) hx hb dX1_allStrength_2 (by decide) ?_
  refine lv_istore_n (lv' := [(2, .int 0), (1, .int 0), (0, .ref (a 4))]) hx hb dX1_allStrength_3 rfl hl (by decide) rfl (fun ls hl => ?_)
  have L4 : ∀ (nn : Nat) (y4_1 : Int32) (y4_2 : Int32) (ls : Array Slot), (0 ≤ (y4_2.toInt)) → ((y4_2.toInt) ≤ 48) → (48 - (y4_2.toInt)).toNat < nn → lv_has ls 3 [(0, .ref (a 4)), (1, .int y4_1), (2, .int y4_2)] → W p l e (headSpec wsX1_allStrength { frames := 0, cells := 0, slots := 0, locals := 0 }).room s m ([.ref (a 4)] : List Value).toArray below meth c s.heap [] 0 0 (MQ below (QR (fun r : Int32 => True)) ([.ref (a 4)] : List Value).toArray s 0 0 (fun _ => False)) (F0 m 4 ls []) := by
    intro nn
    induction nn with
    | zero =>
      intro y4_1 y4_2 ls i4_0 i4_1 hm
      exact absurd hm (Nat.not_lt_zero _)
    | succ nn ih4 =>
      intro y4_1 y4_2 ls i4_0 i4_1 hm hl
      refine lv_iload_n hx hb dX1_allStrength_4 rfl (lv_at hl 2 rfl) ?_
      refine lv_bipush (v := 48) hx hb dX1_allStrength_5 (by decide) ?_
      refine lv_icmp_ge (tgt := 35) hx hb dX1_allStrength_7 (by decide) (fun c1 => ?_) (fun c1 => ?_)
      · have dc1 : 48 ≤ y4_2.toInt := leC (show (48 : Int32).toInt = 48 from rfl) rfl c1
        refine lv_iload_n hx hb dX1_allStrength_35 rfl (lv_at hl 1 rfl) ?_
        exact W.iret (v := y4_1) hx hb hr (fun t ht hW => ⟨y4_1, rfl, trivial, ht⟩) (fun q h => by cases h) dX1_allStrength_36
      · have dc1 : y4_2.toInt < 48 := nleC (show (48 : Int32).toInt = 48 from rfl) rfl c1
        refine lv_aload_n hx hb dX1_allStrength_10 rfl (lv_at hl 0 rfl) ?_
        refine va_get (D := (dC, dI)) (ci := 1) (v := .ref (a 5)) (C := RX1) (T := TX1) (N := 13) hx hb hts inX1 hown hK hP 0 rfl rfl 1 (by decide) lf9 (fun _ h9 => h9) rfl dX1_allStrength_11 ?_
        refine lv_iload_n hx hb dX1_allStrength_14 rfl (lv_at hl 2 rfl) ?_
        have b2 : vp_in y4_2 48 := inC rfl (by omega) (by omega)
        refine va_iald hx hb hK hP 1 0 rfl rfl b2 dX1_allStrength_15 ?_
        have g3 : -1 ≤ (top y4_2.toNatClampNeg).toInt ∧ (top y4_2.toNatClampNeg).toInt ≤ 23 := rg_at r_top b2
        refine lv_iconst (v := (-1)) hx hb dX1_allStrength_16 (by decide) ?_
        refine lv_icmp_eq (tgt := 29) hx hb dX1_allStrength_17 (by decide) (fun c4 => ?_) (fun c4 => ?_)
        · have dc4 : (top y4_2.toNatClampNeg).toInt = (-1) := eqC rfl (show ((-1) : Int32).toInt = (-1) from rfl) c4
          obtain ⟨z5, ez5⟩ : ∃ y : Int32, y = y4_2 + 1 := ⟨_, rfl⟩
          have iz5 : z5.toInt = y4_2.toInt + 1 := by rw [ez5]; exact addC rfl rfl (by omega) (by omega)
          refine lv_iinc (v := z5) (lv' := [(2, .int z5), (0, .ref (a 4)), (1, .int y4_1)]) hx hb dX1_allStrength_29 hl (k := 2) rfl (by rw [ez5]; rfl) (by decide) rfl (fun ls hl => ?_)
          refine lv_goto (tgt := 4) hx hb dX1_allStrength_32 (by decide) ?_
          exact ih4 y4_1 z5 _ (by omega) (by omega) (by omega) (lv_sub hl [1, 2, 0] rfl)
        · have dc4 : (top y4_2.toNatClampNeg).toInt ≠ (-1) := neC rfl (show ((-1) : Int32).toInt = (-1) from rfl) c4
          refine lv_iload_n hx hb dX1_allStrength_20 rfl (lv_at hl 1 rfl) ?_
          refine lv_aload_n hx hb dX1_allStrength_21 rfl (lv_at hl 0 rfl) ?_
          refine va_get (D := (dC, dI)) (ci := 1) (v := .ref (a 6)) (C := RX1) (T := TX1) (N := 13) hx hb hts inX1 hown hK hP 0 rfl rfl 2 (by decide) lf15 (fun _ h9 => h9) rfl dX1_allStrength_22 ?_
          refine lv_iload_n hx hb dX1_allStrength_25 rfl (lv_at hl 2 rfl) ?_
          have b6 : vp_in y4_2 48 := inC rfl (by omega) (by omega)
          refine va_iald hx hb hK hP 2 0 rfl rfl b6 dX1_allStrength_26 ?_
          have g7 : 0 ≤ (str y4_2.toNatClampNeg).toInt ∧ (str y4_2.toNatClampNeg).toInt ≤ 100 := rg_at r_str b6
          refine lv_iadd hx hb dX1_allStrength_27 ?_
          refine lv_topi (fun x8 ex8 => ?_)
          have ix8 : x8.toInt = (y4_1 + (str y4_2.toNatClampNeg)).toInt := by rw [ex8]
          refine lv_istore_n (lv' := [(1, .int x8), (0, .ref (a 4)), (2, .int y4_2)]) hx hb dX1_allStrength_28 rfl hl (by decide) rfl (fun ls hl => ?_)
          obtain ⟨z9, ez9⟩ : ∃ y : Int32, y = y4_2 + 1 := ⟨_, rfl⟩
          have iz9 : z9.toInt = y4_2.toInt + 1 := by rw [ez9]; exact addC rfl rfl (by omega) (by omega)
          refine lv_iinc (v := z9) (lv' := [(2, .int z9), (1, .int x8), (0, .ref (a 4))]) hx hb dX1_allStrength_29 hl (k := 2) rfl (by rw [ez9]; rfl) (by decide) rfl (fun ls hl => ?_)
          refine lv_goto (tgt := 4) hx hb dX1_allStrength_32 (by decide) ?_
          exact ih4 x8 z9 _ (by omega) (by omega) (by omega) (lv_sub hl [2, 1, 0] rfl)
  have kc10 : (0 : Int32).toInt = 0 := rfl
  exact L4 _ 0 0 _ (by omega) (by omega) (Nat.lt_succ_self _) (lv_sub hl [2, 1, 0] rfl)
