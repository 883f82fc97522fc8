set_option maxRecDepth 20000 in
theorem ggX10_likeBeside_X10_likeness : GoodIn wsX10_likeBeside wsX10_likeness := goodIn_r _ [7, 8, 9, 10, 11, 12, 13, 14, 15, 16, 17, 18, 19, 20, 21, 22, 23, 24, 25, 26, 27, 28, 29, 30, 31, 32, 33, 34, 35, 36, 37, 38, 39, 40, 41, 42, 43, 44, 45, 46, 47] (by decide +kernel) (by decide +kernel)
set_option maxRecDepth 20000 in
theorem gX10_likeBeside_X10_likeness : GoodIn wsX10_likeBeside (wsV RX10 115 RX10 yX10_likeness wsX10_likeness) := goodIn_app (goodIn_of _ (by decide +kernel)) ggX10_likeBeside_X10_likeness
theorem dX10_likeBeside_0 : decode cX10_likeBeside 0 = .ok (.iconst 0, 1) := by decide +kernel
theorem dX10_likeBeside_1 : decode cX10_likeBeside 1 = .ok (.istore_n 2, 1) := by decide +kernel
theorem dX10_likeBeside_2 : decode cX10_likeBeside 2 = .ok (.iload_n 1, 1) := by decide +kernel
theorem dX10_likeBeside_3 : decode cX10_likeBeside 3 = .ok (.bipush 6, 2) := by decide +kernel
theorem dX10_likeBeside_5 : decode cX10_likeBeside 5 = .ok (.idiv, 1) := by decide +kernel
theorem dX10_likeBeside_6 : decode cX10_likeBeside 6 = .ok (.bipush 6, 2) := by decide +kernel
theorem dX10_likeBeside_8 : decode cX10_likeBeside 8 = .ok (.imul, 1) := by decide +kernel
theorem dX10_likeBeside_9 : decode cX10_likeBeside 9 = .ok (.istore_n 3, 1) := by decide +kernel
theorem dX10_likeBeside_10 : decode cX10_likeBeside 10 = .ok (.iload_n 3, 1) := by decide +kernel
theorem dX10_likeBeside_11 : decode cX10_likeBeside 11 = .ok (.iload_n 1, 1) := by decide +kernel
theorem dX10_likeBeside_12 : decode cX10_likeBeside 12 = .ok (.bipush 6, 2) := by decide +kernel
theorem dX10_likeBeside_14 : decode cX10_likeBeside 14 = .ok (.idiv, 1) := by decide +kernel
theorem dX10_likeBeside_15 : decode cX10_likeBeside 15 = .ok (.bipush 6, 2) := by decide +kernel
theorem dX10_likeBeside_17 : decode cX10_likeBeside 17 = .ok (.imul, 1) := by decide +kernel
theorem dX10_likeBeside_18 : decode cX10_likeBeside 18 = .ok (.bipush 6, 2) := by decide +kernel
theorem dX10_likeBeside_20 : decode cX10_likeBeside 20 = .ok (.iadd, 1) := by decide +kernel
theorem dX10_likeBeside_21 : decode cX10_likeBeside 21 = .ok (.if_icmp .ge 55, 3) := by decide +kernel
theorem dX10_likeBeside_24 : decode cX10_likeBeside 24 = .ok (.iload_n 2, 1) := by decide +kernel
theorem dX10_likeBeside_25 : decode cX10_likeBeside 25 = .ok (.iload_n 3, 1) := by decide +kernel
theorem dX10_likeBeside_26 : decode cX10_likeBeside 26 = .ok (.iload_n 1, 1) := by decide +kernel
theorem dX10_likeBeside_27 : decode cX10_likeBeside 27 = .ok (.if_icmp .eq 40, 3) := by decide +kernel
theorem dX10_likeBeside_30 : decode cX10_likeBeside 30 = .ok (.aload_n 0, 1) := by decide +kernel
theorem dX10_likeBeside_31 : decode cX10_likeBeside 31 = .ok (.getfield 32, 3) := by decide +kernel
theorem dX10_likeBeside_34 : decode cX10_likeBeside 34 = .ok (.iload_n 3, 1) := by decide +kernel
theorem dX10_likeBeside_35 : decode cX10_likeBeside 35 = .ok (.iaload, 1) := by decide +kernel
theorem dX10_likeBeside_36 : decode cX10_likeBeside 36 = .ok (.iconst (-1), 1) := by decide +kernel
theorem dX10_likeBeside_37 : decode cX10_likeBeside 37 = .ok (.if_icmp .eq 30, 3) := by decide +kernel
theorem dX10_likeBeside_40 : decode cX10_likeBeside 40 = .ok (.aload_n 0, 1) := by decide +kernel
theorem dX10_likeBeside_41 : decode cX10_likeBeside 41 = .ok (.aload_n 0, 1) := by decide +kernel
theorem dX10_likeBeside_42 : decode cX10_likeBeside 42 = .ok (.getfield 32, 3) := by decide +kernel
theorem dX10_likeBeside_45 : decode cX10_likeBeside 45 = .ok (.iload_n 3, 1) := by decide +kernel
theorem dX10_likeBeside_46 : decode cX10_likeBeside 46 = .ok (.iaload, 1) := by decide +kernel
theorem dX10_likeBeside_47 : decode cX10_likeBeside 47 = .ok (.aload_n 0, 1) := by decide +kernel
theorem dX10_likeBeside_48 : decode cX10_likeBeside 48 = .ok (.getfield 32, 3) := by decide +kernel
theorem dX10_likeBeside_51 : decode cX10_likeBeside 51 = .ok (.iload_n 1, 1) := by decide +kernel
theorem dX10_likeBeside_52 : decode cX10_likeBeside 52 = .ok (.iaload, 1) := by decide +kernel
theorem dX10_likeBeside_53 : decode cX10_likeBeside 53 = .ok (.invokevirtual 115, 3) := by decide +kernel
theorem dX10_likeBeside_56 : decode cX10_likeBeside 56 = .ok (.aload_n 0, 1) := by decide +kernel
theorem dX10_likeBeside_57 : decode cX10_likeBeside 57 = .ok (.getfield 22, 3) := by decide +kernel
theorem dX10_likeBeside_60 : decode cX10_likeBeside 60 = .ok (.if_icmp .lt 7, 3) := by decide +kernel
theorem dX10_likeBeside_63 : decode cX10_likeBeside 63 = .ok (.iconst 1, 1) := by decide +kernel
theorem dX10_likeBeside_64 : decode cX10_likeBeside 64 = .ok (.goto 4, 3) := by decide +kernel
theorem dX10_likeBeside_67 : decode cX10_likeBeside 67 = .ok (.iconst 0, 1) := by decide +kernel
theorem dX10_likeBeside_68 : decode cX10_likeBeside 68 = .ok (.iadd, 1) := by decide +kernel
theorem dX10_likeBeside_69 : decode cX10_likeBeside 69 = .ok (.istore_n 2, 1) := by decide +kernel
theorem dX10_likeBeside_70 : decode cX10_likeBeside 70 = .ok (.iinc 3 1, 3) := by decide +kernel
theorem dX10_likeBeside_73 : decode cX10_likeBeside 73 = .ok (.goto (-63), 3) := by decide +kernel
theorem dX10_likeBeside_76 : decode cX10_likeBeside 76 = .ok (.iload_n 2, 1) := by decide +kernel
theorem dX10_likeBeside_77 : decode cX10_likeBeside 77 = .ok (.ireturn, 1) := by decide +kernel
set_option maxRecDepth 20000 in
theorem ggX10_goDay_X10_likeBeside : GoodIn wsX10_goDay wsX10_likeBeside := goodIn_r _ [9, 3, 10, 11, 12, 13, 8, 14, 15, 16, 17, 18, 19, 20, 21, 22, 23, 24, 25, 26, 27, 28, 29, 30, 31, 32, 33, 34, 35, 36, 37, 38, 39, 40, 41, 42, 43, 44, 45, 46, 47, 48, 49, 50, 51, 52, 53, 54] (by decide +kernel) (by decide +kernel)
set_option maxRecDepth 20000 in
theorem gX10_goDay_X10_likeBeside : GoodIn wsX10_goDay (wsV RX10 128 RX10 yX10_likeBeside wsX10_likeBeside) := goodIn_app (goodIn_of _ (by decide +kernel)) ggX10_goDay_X10_likeBeside
theorem dX10_goDay_0 : decode cX10_goDay 0 = .ok (.iconst 0, 1) := by decide +kernel
theorem dX10_goDay_1 : decode cX10_goDay 1 = .ok (.istore_n 3, 1) := by decide +kernel
theorem dX10_goDay_2 : decode cX10_goDay 2 = .ok (.iload_n 3, 1) := by decide +kernel
theorem dX10_goDay_3 : decode cX10_goDay 3 = .ok (.bipush 48, 2) := by decide +kernel
theorem dX10_goDay_5 : decode cX10_goDay 5 = .ok (.if_icmp .ge 117, 3) := by decide +kernel
theorem dX10_goDay_8 : decode cX10_goDay 8 = .ok (.aload_n 0, 1) := by decide +kernel
theorem dX10_goDay_9 : decode cX10_goDay 9 = .ok (.getfield 50, 3) := by decide +kernel
theorem dX10_goDay_12 : decode cX10_goDay 12 = .ok (.iload_n 1, 1) := by decide +kernel
theorem dX10_goDay_13 : decode cX10_goDay 13 = .ok (.iload_n 3, 1) := by decide +kernel
theorem dX10_goDay_14 : decode cX10_goDay 14 = .ok (.iadd, 1) := by decide +kernel
theorem dX10_goDay_15 : decode cX10_goDay 15 = .ok (.iaload, 1) := by decide +kernel
theorem dX10_goDay_16 : decode cX10_goDay 16 = .ok (.istore 4, 2) := by decide +kernel
theorem dX10_goDay_18 : decode cX10_goDay 18 = .ok (.aload_n 0, 1) := by decide +kernel
theorem dX10_goDay_19 : decode cX10_goDay 19 = .ok (.getfield 53, 3) := by decide +kernel
theorem dX10_goDay_22 : decode cX10_goDay 22 = .ok (.iload_n 1, 1) := by decide +kernel
theorem dX10_goDay_23 : decode cX10_goDay 23 = .ok (.iload_n 3, 1) := by decide +kernel
theorem dX10_goDay_24 : decode cX10_goDay 24 = .ok (.iadd, 1) := by decide +kernel
theorem dX10_goDay_25 : decode cX10_goDay 25 = .ok (.iaload, 1) := by decide +kernel
theorem dX10_goDay_26 : decode cX10_goDay 26 = .ok (.istore 5, 2) := by decide +kernel
theorem dX10_goDay_28 : decode cX10_goDay 28 = .ok (.aload_n 0, 1) := by decide +kernel
theorem dX10_goDay_29 : decode cX10_goDay 29 = .ok (.getfield 32, 3) := by decide +kernel
theorem dX10_goDay_32 : decode cX10_goDay 32 = .ok (.iload_n 3, 1) := by decide +kernel
theorem dX10_goDay_33 : decode cX10_goDay 33 = .ok (.iaload, 1) := by decide +kernel
theorem dX10_goDay_34 : decode cX10_goDay 34 = .ok (.iconst (-1), 1) := by decide +kernel
theorem dX10_goDay_35 : decode cX10_goDay 35 = .ok (.if_icmp .ne 7, 3) := by decide +kernel
theorem dX10_goDay_38 : decode cX10_goDay 38 = .ok (.iconst 0, 1) := by decide +kernel
theorem dX10_goDay_39 : decode cX10_goDay 39 = .ok (.goto 22, 3) := by decide +kernel
theorem dX10_goDay_42 : decode cX10_goDay 42 = .ok (.iload 4, 2) := by decide +kernel
theorem dX10_goDay_44 : decode cX10_goDay 44 = .ok (.aload_n 0, 1) := by decide +kernel
theorem dX10_goDay_45 : decode cX10_goDay 45 = .ok (.getfield 29, 3) := by decide +kernel
theorem dX10_goDay_48 : decode cX10_goDay 48 = .ok (.iload 4, 2) := by decide +kernel
theorem dX10_goDay_50 : decode cX10_goDay 50 = .ok (.bipush 10, 2) := by decide +kernel
theorem dX10_goDay_52 : decode cX10_goDay 52 = .ok (.idiv, 1) := by decide +kernel
theorem dX10_goDay_53 : decode cX10_goDay 53 = .ok (.iaload, 1) := by decide +kernel
theorem dX10_goDay_54 : decode cX10_goDay 54 = .ok (.isub, 1) := by decide +kernel
theorem dX10_goDay_55 : decode cX10_goDay 55 = .ok (.aload_n 0, 1) := by decide +kernel
theorem dX10_goDay_56 : decode cX10_goDay 56 = .ok (.iload_n 3, 1) := by decide +kernel
theorem dX10_goDay_57 : decode cX10_goDay 57 = .ok (.invokevirtual 128, 3) := by decide +kernel
theorem dX10_goDay_60 : decode cX10_goDay 60 = .ok (.isub, 1) := by decide +kernel
theorem dX10_goDay_61 : decode cX10_goDay 61 = .ok (.istore 4, 2) := by decide +kernel
theorem dX10_goDay_63 : decode cX10_goDay 63 = .ok (.iload 5, 2) := by decide +kernel
theorem dX10_goDay_65 : decode cX10_goDay 65 = .ok (.aload_n 0, 1) := by decide +kernel
theorem dX10_goDay_66 : decode cX10_goDay 66 = .ok (.getfield 29, 3) := by decide +kernel
theorem dX10_goDay_69 : decode cX10_goDay 69 = .ok (.iload 5, 2) := by decide +kernel
theorem dX10_goDay_71 : decode cX10_goDay 71 = .ok (.bipush 10, 2) := by decide +kernel
theorem dX10_goDay_73 : decode cX10_goDay 73 = .ok (.idiv, 1) := by decide +kernel
theorem dX10_goDay_74 : decode cX10_goDay 74 = .ok (.iaload, 1) := by decide +kernel
theorem dX10_goDay_75 : decode cX10_goDay 75 = .ok (.isub, 1) := by decide +kernel
theorem dX10_goDay_76 : decode cX10_goDay 76 = .ok (.istore 5, 2) := by decide +kernel
theorem dX10_goDay_78 : decode cX10_goDay 78 = .ok (.aload_n 0, 1) := by decide +kernel
theorem dX10_goDay_79 : decode cX10_goDay 79 = .ok (.getfield 50, 3) := by decide +kernel
theorem dX10_goDay_82 : decode cX10_goDay 82 = .ok (.iload_n 2, 1) := by decide +kernel
theorem dX10_goDay_83 : decode cX10_goDay 83 = .ok (.iload_n 3, 1) := by decide +kernel
theorem dX10_goDay_84 : decode cX10_goDay 84 = .ok (.iadd, 1) := by decide +kernel
theorem dX10_goDay_85 : decode cX10_goDay 85 = .ok (.iload 4, 2) := by decide +kernel
theorem dX10_goDay_87 : decode cX10_goDay 87 = .ok (.ifCond .ge 7, 3) := by decide +kernel
theorem dX10_goDay_90 : decode cX10_goDay 90 = .ok (.iconst 0, 1) := by decide +kernel
theorem dX10_goDay_91 : decode cX10_goDay 91 = .ok (.goto 5, 3) := by decide +kernel
theorem dX10_goDay_94 : decode cX10_goDay 94 = .ok (.iload 4, 2) := by decide +kernel
theorem dX10_goDay_96 : decode cX10_goDay 96 = .ok (.iastore, 1) := by decide +kernel
theorem dX10_goDay_97 : decode cX10_goDay 97 = .ok (.aload_n 0, 1) := by decide +kernel
theorem dX10_goDay_98 : decode cX10_goDay 98 = .ok (.getfield 53, 3) := by decide +kernel
theorem dX10_goDay_101 : decode cX10_goDay 101 = .ok (.iload_n 2, 1) := by decide +kernel
theorem dX10_goDay_102 : decode cX10_goDay 102 = .ok (.iload_n 3, 1) := by decide +kernel
theorem dX10_goDay_103 : decode cX10_goDay 103 = .ok (.iadd, 1) := by decide +kernel
theorem dX10_goDay_104 : decode cX10_goDay 104 = .ok (.iload 5, 2) := by decide +kernel
theorem dX10_goDay_106 : decode cX10_goDay 106 = .ok (.ifCond .ge 7, 3) := by decide +kernel
theorem dX10_goDay_109 : decode cX10_goDay 109 = .ok (.iconst 0, 1) := by decide +kernel
theorem dX10_goDay_110 : decode cX10_goDay 110 = .ok (.goto 5, 3) := by decide +kernel
theorem dX10_goDay_113 : decode cX10_goDay 113 = .ok (.iload 5, 2) := by decide +kernel
theorem dX10_goDay_115 : decode cX10_goDay 115 = .ok (.iastore, 1) := by decide +kernel
theorem dX10_goDay_116 : decode cX10_goDay 116 = .ok (.iinc 3 1, 3) := by decide +kernel
theorem dX10_goDay_119 : decode cX10_goDay 119 = .ok (.goto (-117), 3) := by decide +kernel
theorem dX10_goDay_122 : decode cX10_goDay 122 = .ok (.return_, 1) := by decide +kernel
theorem dX10_lookAhead_0 : decode cX10_lookAhead 0 = .ok (.iconst 0, 1) := by decide +kernel
theorem dX10_lookAhead_1 : decode cX10_lookAhead 1 = .ok (.istore_n 1, 1) := by decide +kernel
theorem dX10_lookAhead_2 : decode cX10_lookAhead 2 = .ok (.iload_n 1, 1) := by decide +kernel
theorem dX10_lookAhead_3 : decode cX10_lookAhead 3 = .ok (.bipush 48, 2) := by decide +kernel
theorem dX10_lookAhead_5 : decode cX10_lookAhead 5 = .ok (.if_icmp .ge 61, 3) := by decide +kernel
theorem dX10_lookAhead_8 : decode cX10_lookAhead 8 = .ok (.aload_n 0, 1) := by decide +kernel
theorem dX10_lookAhead_9 : decode cX10_lookAhead 9 = .ok (.getfield 50, 3) := by decide +kernel
theorem dX10_lookAhead_12 : decode cX10_lookAhead 12 = .ok (.iload_n 1, 1) := by decide +kernel
theorem dX10_lookAhead_13 : decode cX10_lookAhead 13 = .ok (.aload_n 0, 1) := by decide +kernel
theorem dX10_lookAhead_14 : decode cX10_lookAhead 14 = .ok (.getfield 32, 3) := by decide +kernel
theorem dX10_lookAhead_17 : decode cX10_lookAhead 17 = .ok (.iload_n 1, 1) := by decide +kernel
theorem dX10_lookAhead_18 : decode cX10_lookAhead 18 = .ok (.iaload, 1) := by decide +kernel
theorem dX10_lookAhead_19 : decode cX10_lookAhead 19 = .ok (.iconst (-1), 1) := by decide +kernel
theorem dX10_lookAhead_20 : decode cX10_lookAhead 20 = .ok (.if_icmp .ne 7, 3) := by decide +kernel
theorem dX10_lookAhead_23 : decode cX10_lookAhead 23 = .ok (.iconst 0, 1) := by decide +kernel
theorem dX10_lookAhead_24 : decode cX10_lookAhead 24 = .ok (.goto 9, 3) := by decide +kernel
theorem dX10_lookAhead_27 : decode cX10_lookAhead 27 = .ok (.aload_n 0, 1) := by decide +kernel
theorem dX10_lookAhead_28 : decode cX10_lookAhead 28 = .ok (.getfield 35, 3) := by decide +kernel
theorem dX10_lookAhead_31 : decode cX10_lookAhead 31 = .ok (.iload_n 1, 1) := by decide +kernel
theorem dX10_lookAhead_32 : decode cX10_lookAhead 32 = .ok (.iaload, 1) := by decide +kernel
theorem dX10_lookAhead_33 : decode cX10_lookAhead 33 = .ok (.iastore, 1) := by decide +kernel
theorem dX10_lookAhead_34 : decode cX10_lookAhead 34 = .ok (.aload_n 0, 1) := by decide +kernel
theorem dX10_lookAhead_35 : decode cX10_lookAhead 35 = .ok (.getfield 53, 3) := by decide +kernel
theorem dX10_lookAhead_38 : decode cX10_lookAhead 38 = .ok (.iload_n 1, 1) := by decide +kernel
theorem dX10_lookAhead_39 : decode cX10_lookAhead 39 = .ok (.aload_n 0, 1) := by decide +kernel
theorem dX10_lookAhead_40 : decode cX10_lookAhead 40 = .ok (.getfield 38, 3) := by decide +kernel
theorem dX10_lookAhead_43 : decode cX10_lookAhead 43 = .ok (.iload_n 1, 1) := by decide +kernel
theorem dX10_lookAhead_44 : decode cX10_lookAhead 44 = .ok (.iaload, 1) := by decide +kernel
theorem dX10_lookAhead_45 : decode cX10_lookAhead 45 = .ok (.iconst (-1), 1) := by decide +kernel
theorem dX10_lookAhead_46 : decode cX10_lookAhead 46 = .ok (.if_icmp .ne 7, 3) := by decide +kernel
theorem dX10_lookAhead_49 : decode cX10_lookAhead 49 = .ok (.iconst 0, 1) := by decide +kernel
theorem dX10_lookAhead_50 : decode cX10_lookAhead 50 = .ok (.goto 9, 3) := by decide +kernel
theorem dX10_lookAhead_53 : decode cX10_lookAhead 53 = .ok (.aload_n 0, 1) := by decide +kernel
theorem dX10_lookAhead_54 : decode cX10_lookAhead 54 = .ok (.getfield 41, 3) := by decide +kernel
theorem dX10_lookAhead_57 : decode cX10_lookAhead 57 = .ok (.iload_n 1, 1) := by decide +kernel
theorem dX10_lookAhead_58 : decode cX10_lookAhead 58 = .ok (.iaload, 1) := by decide +kernel
theorem dX10_lookAhead_59 : decode cX10_lookAhead 59 = .ok (.iastore, 1) := by decide +kernel
theorem dX10_lookAhead_60 : decode cX10_lookAhead 60 = .ok (.iinc 1 1, 3) := by decide +kernel
theorem dX10_lookAhead_63 : decode cX10_lookAhead 63 = .ok (.goto (-61), 3) := by decide +kernel
theorem dX10_lookAhead_66 : decode cX10_lookAhead 66 = .ok (.return_, 1) := by decide +kernel
set_option maxRecDepth 20000 in
theorem ggX10_days_X10_in : GoodIn wsX10_days wsX10_in := goodIn_r _ [10] (by decide +kernel) (by decide +kernel)
set_option maxRecDepth 20000 in
theorem gX10_days_X10_in : GoodIn wsX10_days (va_wsS RX10 93 yX10_in wsX10_in) := goodIn_app (goodIn_of _ (by decide +kernel)) ggX10_days_X10_in
set_option maxRecDepth 20000 in
theorem ggX10_days_X10_lookAhead : GoodIn wsX10_days wsX10_lookAhead := goodIn_r _ [14, 3, 15, 2, 5, 6, 4, 31, 32, 33, 34, 35, 36, 37, 38, 39, 40, 41, 42, 43, 44, 45, 46, 47, 48, 49, 50, 51, 52, 53, 54, 55, 56, 57, 58, 59, 60, 61, 62, 63, 64, 65, 66, 67, 68, 69] (by decide +kernel) (by decide +kernel)
set_option maxRecDepth 20000 in
theorem gX10_days_X10_lookAhead : GoodIn wsX10_days (wsV RX10 131 RX10 yX10_lookAhead wsX10_lookAhead) := goodIn_app (goodIn_of _ (by decide +kernel)) ggX10_days_X10_lookAhead
set_option maxRecDepth 20000 in
theorem ggX10_days_X10_goDay : GoodIn wsX10_days wsX10_goDay := goodIn_r _ [19, 3, 5, 15, 20, 21, 22, 23, 9, 24, 25, 26, 27, 28, 29, 30, 31, 32, 33, 34, 35, 36, 37, 38, 39, 40, 41, 42, 43, 44, 45, 46, 47, 48, 49, 50, 51, 52, 53, 54, 55, 56, 57, 58, 59, 60, 61, 62, 63, 64, 65, 66, 67, 68, 69] (by decide +kernel) (by decide +kernel)
set_option maxRecDepth 20000 in
theorem gX10_days_X10_goDay : GoodIn wsX10_days (wsV RX10 134 RX10 yX10_goDay wsX10_goDay) := goodIn_app (goodIn_of _ (by decide +kernel)) ggX10_days_X10_goDay
theorem dX10_days_0 : decode cX10_days 0 = .ok (.iload_n 1, 1) := by decide +kernel
theorem dX10_days_1 : decode cX10_days 1 = .ok (.iconst 1, 1) := by decide +kernel
theorem dX10_days_2 : decode cX10_days 2 = .ok (.bipush 60, 2) := by decide +kernel
theorem dX10_days_4 : decode cX10_days 4 = .ok (.invokestatic 93, 3) := by decide +kernel
theorem dX10_days_7 : decode cX10_days 7 = .ok (.ifCond .eq 15, 3) := by decide +kernel
theorem dX10_days_10 : decode cX10_days 10 = .ok (.aload_n 0, 1) := by decide +kernel
theorem dX10_days_11 : decode cX10_days 11 = .ok (.getfield 125, 3) := by decide +kernel
theorem dX10_days_14 : decode cX10_days 14 = .ok (.iload_n 1, 1) := by decide +kernel
theorem dX10_days_15 : decode cX10_days 15 = .ok (.iadd, 1) := by decide +kernel
theorem dX10_days_16 : decode cX10_days 16 = .ok (.sipush 400, 3) := by decide +kernel
theorem dX10_days_19 : decode cX10_days 19 = .ok (.if_icmp .le 6, 3) := by decide +kernel
theorem dX10_days_22 : decode cX10_days 22 = .ok (.bipush (-3), 2) := by decide +kernel
theorem dX10_days_24 : decode cX10_days 24 = .ok (.ireturn, 1) := by decide +kernel
theorem dX10_days_25 : decode cX10_days 25 = .ok (.aload_n 0, 1) := by decide +kernel
theorem dX10_days_26 : decode cX10_days 26 = .ok (.invokevirtual 131, 3) := by decide +kernel
theorem dX10_days_29 : decode cX10_days 29 = .ok (.iconst 0, 1) := by decide +kernel
theorem dX10_days_30 : decode cX10_days 30 = .ok (.istore_n 2, 1) := by decide +kernel
theorem dX10_days_31 : decode cX10_days 31 = .ok (.iload_n 2, 1) := by decide +kernel
theorem dX10_days_32 : decode cX10_days 32 = .ok (.iload_n 1, 1) := by decide +kernel
theorem dX10_days_33 : decode cX10_days 33 = .ok (.if_icmp .ge 15, 3) := by decide +kernel
theorem dX10_days_36 : decode cX10_days 36 = .ok (.aload_n 0, 1) := by decide +kernel
theorem dX10_days_37 : decode cX10_days 37 = .ok (.iconst 0, 1) := by decide +kernel
theorem dX10_days_38 : decode cX10_days 38 = .ok (.iconst 0, 1) := by decide +kernel
theorem dX10_days_39 : decode cX10_days 39 = .ok (.invokevirtual 134, 3) := by decide +kernel
theorem dX10_days_42 : decode cX10_days 42 = .ok (.iinc 2 1, 3) := by decide +kernel
theorem dX10_days_45 : decode cX10_days 45 = .ok (.goto (-14), 3) := by decide +kernel
theorem dX10_days_48 : decode cX10_days 48 = .ok (.iconst 0, 1) := by decide +kernel
theorem dX10_days_49 : decode cX10_days 49 = .ok (.istore_n 2, 1) := by decide +kernel
theorem dX10_days_50 : decode cX10_days 50 = .ok (.iload_n 2, 1) := by decide +kernel
theorem dX10_days_51 : decode cX10_days 51 = .ok (.bipush 48, 2) := by decide +kernel
theorem dX10_days_53 : decode cX10_days 53 = .ok (.if_icmp .ge 58, 3) := by decide +kernel
theorem dX10_days_56 : decode cX10_days 56 = .ok (.aload_n 0, 1) := by decide +kernel
theorem dX10_days_57 : decode cX10_days 57 = .ok (.getfield 35, 3) := by decide +kernel
theorem dX10_days_60 : decode cX10_days 60 = .ok (.iload_n 2, 1) := by decide +kernel
theorem dX10_days_61 : decode cX10_days 61 = .ok (.aload_n 0, 1) := by decide +kernel
theorem dX10_days_62 : decode cX10_days 62 = .ok (.getfield 50, 3) := by decide +kernel
theorem dX10_days_65 : decode cX10_days 65 = .ok (.iload_n 2, 1) := by decide +kernel
theorem dX10_days_66 : decode cX10_days 66 = .ok (.iaload, 1) := by decide +kernel
theorem dX10_days_67 : decode cX10_days 67 = .ok (.iastore, 1) := by decide +kernel
theorem dX10_days_68 : decode cX10_days 68 = .ok (.aload_n 0, 1) := by decide +kernel
theorem dX10_days_69 : decode cX10_days 69 = .ok (.getfield 41, 3) := by decide +kernel
theorem dX10_days_72 : decode cX10_days 72 = .ok (.iload_n 2, 1) := by decide +kernel
theorem dX10_days_73 : decode cX10_days 73 = .ok (.aload_n 0, 1) := by decide +kernel
theorem dX10_days_74 : decode cX10_days 74 = .ok (.getfield 53, 3) := by decide +kernel
theorem dX10_days_77 : decode cX10_days 77 = .ok (.iload_n 2, 1) := by decide +kernel
theorem dX10_days_78 : decode cX10_days 78 = .ok (.iaload, 1) := by decide +kernel
theorem dX10_days_79 : decode cX10_days 79 = .ok (.iastore, 1) := by decide +kernel
theorem dX10_days_80 : decode cX10_days 80 = .ok (.aload_n 0, 1) := by decide +kernel
theorem dX10_days_81 : decode cX10_days 81 = .ok (.getfield 38, 3) := by decide +kernel
theorem dX10_days_84 : decode cX10_days 84 = .ok (.iload_n 2, 1) := by decide +kernel
theorem dX10_days_85 : decode cX10_days 85 = .ok (.aload_n 0, 1) := by decide +kernel
theorem dX10_days_86 : decode cX10_days 86 = .ok (.getfield 41, 3) := by decide +kernel
theorem dX10_days_89 : decode cX10_days 89 = .ok (.iload_n 2, 1) := by decide +kernel
theorem dX10_days_90 : decode cX10_days 90 = .ok (.iaload, 1) := by decide +kernel
theorem dX10_days_91 : decode cX10_days 91 = .ok (.ifCond .ne 7, 3) := by decide +kernel
theorem dX10_days_94 : decode cX10_days 94 = .ok (.iconst (-1), 1) := by decide +kernel
theorem dX10_days_95 : decode cX10_days 95 = .ok (.goto 9, 3) := by decide +kernel
theorem dX10_days_98 : decode cX10_days 98 = .ok (.aload_n 0, 1) := by decide +kernel
theorem dX10_days_99 : decode cX10_days 99 = .ok (.getfield 38, 3) := by decide +kernel
theorem dX10_days_102 : decode cX10_days 102 = .ok (.iload_n 2, 1) := by decide +kernel
theorem dX10_days_103 : decode cX10_days 103 = .ok (.iaload, 1) := by decide +kernel
theorem dX10_days_104 : decode cX10_days 104 = .ok (.iastore, 1) := by decide +kernel
theorem dX10_days_105 : decode cX10_days 105 = .ok (.iinc 2 1, 3) := by decide +kernel
theorem dX10_days_108 : decode cX10_days 108 = .ok (.goto (-58), 3) := by decide +kernel
theorem dX10_days_111 : decode cX10_days 111 = .ok (.aload_n 0, 1) := by decide +kernel
theorem dX10_days_112 : decode cX10_days 112 = .ok (.dup, 1) := by decide +kernel
theorem dX10_days_113 : decode cX10_days 113 = .ok (.getfield 125, 3) := by decide +kernel
theorem dX10_days_116 : decode cX10_days 116 = .ok (.iload_n 1, 1) := by decide +kernel
theorem dX10_days_117 : decode cX10_days 117 = .ok (.iadd, 1) := by decide +kernel
theorem dX10_days_118 : decode cX10_days 118 = .ok (.putfield 125, 3) := by decide +kernel
theorem dX10_days_121 : decode cX10_days 121 = .ok (.aload_n 0, 1) := by decide +kernel
theorem dX10_days_122 : decode cX10_days 122 = .ok (.getfield 125, 3) := by decide +kernel
theorem dX10_days_125 : decode cX10_days 125 = .ok (.ireturn, 1) := by decide +kernel
theorem dX10_goWalk_0 : decode cX10_goWalk 0 = .ok (.iconst 0, 1) := by decide +kernel
theorem dX10_goWalk_1 : decode cX10_goWalk 1 = .ok (.istore_n 3, 1) := by decide +kernel
theorem dX10_goWalk_2 : decode cX10_goWalk 2 = .ok (.bipush 6, 2) := by decide +kernel
theorem dX10_goWalk_4 : decode cX10_goWalk 4 = .ok (.iload_n 1, 1) := by decide +kernel
theorem dX10_goWalk_5 : decode cX10_goWalk 5 = .ok (.imul, 1) := by decide +kernel
theorem dX10_goWalk_6 : decode cX10_goWalk 6 = .ok (.istore 4, 2) := by decide +kernel
theorem dX10_goWalk_8 : decode cX10_goWalk 8 = .ok (.iload 4, 2) := by decide +kernel
theorem dX10_goWalk_10 : decode cX10_goWalk 10 = .ok (.bipush 6, 2) := by decide +kernel
theorem dX10_goWalk_12 : decode cX10_goWalk 12 = .ok (.iload_n 1, 1) := by decide +kernel
theorem dX10_goWalk_13 : decode cX10_goWalk 13 = .ok (.imul, 1) := by decide +kernel
theorem dX10_goWalk_14 : decode cX10_goWalk 14 = .ok (.bipush 6, 2) := by decide +kernel
theorem dX10_goWalk_16 : decode cX10_goWalk 16 = .ok (.iadd, 1) := by decide +kernel
theorem dX10_goWalk_17 : decode cX10_goWalk 17 = .ok (.if_icmp .ge 65, 3) := by decide +kernel
theorem dX10_goWalk_20 : decode cX10_goWalk 20 = .ok (.aload_n 0, 1) := by decide +kernel
theorem dX10_goWalk_21 : decode cX10_goWalk 21 = .ok (.getfield 32, 3) := by decide +kernel
theorem dX10_goWalk_24 : decode cX10_goWalk 24 = .ok (.iload 4, 2) := by decide +kernel
theorem dX10_goWalk_26 : decode cX10_goWalk 26 = .ok (.iaload, 1) := by decide +kernel
theorem dX10_goWalk_27 : decode cX10_goWalk 27 = .ok (.iconst (-1), 1) := by decide +kernel
theorem dX10_goWalk_28 : decode cX10_goWalk 28 = .ok (.if_icmp .ne 7, 3) := by decide +kernel
theorem dX10_goWalk_31 : decode cX10_goWalk 31 = .ok (.iconst 0, 1) := by decide +kernel
theorem dX10_goWalk_32 : decode cX10_goWalk 32 = .ok (.goto 23, 3) := by decide +kernel
theorem dX10_goWalk_35 : decode cX10_goWalk 35 = .ok (.bipush 100, 2) := by decide +kernel
theorem dX10_goWalk_37 : decode cX10_goWalk 37 = .ok (.aload_n 0, 1) := by decide +kernel
theorem dX10_goWalk_38 : decode cX10_goWalk 38 = .ok (.getfield 50, 3) := by decide +kernel
theorem dX10_goWalk_41 : decode cX10_goWalk 41 = .ok (.iload_n 2, 1) := by decide +kernel
theorem dX10_goWalk_42 : decode cX10_goWalk 42 = .ok (.iload 4, 2) := by decide +kernel
theorem dX10_goWalk_44 : decode cX10_goWalk 44 = .ok (.iadd, 1) := by decide +kernel
theorem dX10_goWalk_45 : decode cX10_goWalk 45 = .ok (.iaload, 1) := by decide +kernel
theorem dX10_goWalk_46 : decode cX10_goWalk 46 = .ok (.isub, 1) := by decide +kernel
theorem dX10_goWalk_47 : decode cX10_goWalk 47 = .ok (.aload_n 0, 1) := by decide +kernel
theorem dX10_goWalk_48 : decode cX10_goWalk 48 = .ok (.getfield 26, 3) := by decide +kernel
theorem dX10_goWalk_51 : decode cX10_goWalk 51 = .ok (.imul, 1) := by decide +kernel
theorem dX10_goWalk_52 : decode cX10_goWalk 52 = .ok (.bipush 100, 2) := by decide +kernel
theorem dX10_goWalk_54 : decode cX10_goWalk 54 = .ok (.idiv, 1) := by decide +kernel
theorem dX10_goWalk_55 : decode cX10_goWalk 55 = .ok (.istore 5, 2) := by decide +kernel
theorem dX10_goWalk_57 : decode cX10_goWalk 57 = .ok (.aload_n 0, 1) := by decide +kernel
theorem dX10_goWalk_58 : decode cX10_goWalk 58 = .ok (.getfield 50, 3) := by decide +kernel
theorem dX10_goWalk_61 : decode cX10_goWalk 61 = .ok (.iload_n 2, 1) := by decide +kernel
theorem dX10_goWalk_62 : decode cX10_goWalk 62 = .ok (.iload 4, 2) := by decide +kernel
theorem dX10_goWalk_64 : decode cX10_goWalk 64 = .ok (.iadd, 1) := by decide +kernel
theorem dX10_goWalk_65 : decode cX10_goWalk 65 = .ok (.dup2, 1) := by decide +kernel
theorem dX10_goWalk_66 : decode cX10_goWalk 66 = .ok (.iaload, 1) := by decide +kernel
theorem dX10_goWalk_67 : decode cX10_goWalk 67 = .ok (.iload 5, 2) := by decide +kernel
theorem dX10_goWalk_69 : decode cX10_goWalk 69 = .ok (.iadd, 1) := by decide +kernel
theorem dX10_goWalk_70 : decode cX10_goWalk 70 = .ok (.iastore, 1) := by decide +kernel
theorem dX10_goWalk_71 : decode cX10_goWalk 71 = .ok (.iload_n 3, 1) := by decide +kernel
theorem dX10_goWalk_72 : decode cX10_goWalk 72 = .ok (.iload 5, 2) := by decide +kernel
theorem dX10_goWalk_74 : decode cX10_goWalk 74 = .ok (.iadd, 1) := by decide +kernel
theorem dX10_goWalk_75 : decode cX10_goWalk 75 = .ok (.istore_n 3, 1) := by decide +kernel
theorem dX10_goWalk_76 : decode cX10_goWalk 76 = .ok (.iinc 4 1, 3) := by decide +kernel
theorem dX10_goWalk_79 : decode cX10_goWalk 79 = .ok (.goto (-71), 3) := by decide +kernel
theorem dX10_goWalk_82 : decode cX10_goWalk 82 = .ok (.iload_n 3, 1) := by decide +kernel
theorem dX10_goWalk_83 : decode cX10_goWalk 83 = .ok (.ireturn, 1) := by decide +kernel
set_option maxRecDepth 20000 in
theorem ggX10_walk_X10_isRoom : GoodIn wsX10_walk wsX10_isRoom := goodIn_r _ [8, 9, 10, 7, 11] (by decide +kernel) (by decide +kernel)
set_option maxRecDepth 20000 in
theorem gX10_walk_X10_isRoom : GoodIn wsX10_walk (va_wsS RX10 100 yX10_isRoom wsX10_isRoom) := goodIn_app (goodIn_of _ (by decide +kernel)) ggX10_walk_X10_isRoom
set_option maxRecDepth 20000 in
theorem ggX10_walk_X10_lookAhead : GoodIn wsX10_walk wsX10_lookAhead := goodIn_r _ [15, 2, 16, 1, 17, 18, 19, 25, 26, 27, 28, 29, 30, 31, 32, 33, 34, 35, 36, 37, 38, 39, 40, 41, 42, 43, 44, 45, 46, 47, 48, 49, 50, 51, 52, 53, 54, 55, 56, 57, 58, 59, 60, 61, 62, 63] (by decide +kernel) (by decide +kernel)
set_option maxRecDepth 20000 in
theorem gX10_walk_X10_lookAhead : GoodIn wsX10_walk (wsV RX10 131 RX10 yX10_lookAhead wsX10_lookAhead) := goodIn_app (goodIn_of _ (by decide +kernel)) ggX10_walk_X10_lookAhead
set_option maxRecDepth 20000 in
theorem ggX10_walk_X10_goWalk : GoodIn wsX10_walk wsX10_goWalk := goodIn_r _ [23, 16, 2, 24, 25, 26, 27, 28, 29, 30, 31, 32, 33, 34, 35, 36, 37, 38, 39, 40, 41, 42, 43, 44, 45, 46, 47, 48, 49, 50, 51, 52, 53, 54, 55, 56, 57, 58, 59, 60, 61, 62, 63] (by decide +kernel) (by decide +kernel)
set_option maxRecDepth 20000 in
theorem gX10_walk_X10_goWalk : GoodIn wsX10_walk (wsV RX10 138 RX10 yX10_goWalk wsX10_goWalk) := goodIn_app (goodIn_of _ (by decide +kernel)) ggX10_walk_X10_goWalk
theorem dX10_walk_0 : decode cX10_walk 0 = .ok (.iload_n 1, 1) := by decide +kernel
theorem dX10_walk_1 : decode cX10_walk 1 = .ok (.invokestatic 100, 3) := by decide +kernel
theorem dX10_walk_4 : decode cX10_walk 4 = .ok (.ifCond .ne 6, 3) := by decide +kernel
theorem dX10_walk_7 : decode cX10_walk 7 = .ok (.bipush (-2), 2) := by decide +kernel
theorem dX10_walk_9 : decode cX10_walk 9 = .ok (.ireturn, 1) := by decide +kernel
theorem dX10_walk_10 : decode cX10_walk 10 = .ok (.aload_n 0, 1) := by decide +kernel
theorem dX10_walk_11 : decode cX10_walk 11 = .ok (.invokevirtual 131, 3) := by decide +kernel
theorem dX10_walk_14 : decode cX10_walk 14 = .ok (.aload_n 0, 1) := by decide +kernel
theorem dX10_walk_15 : decode cX10_walk 15 = .ok (.iload_n 1, 1) := by decide +kernel
theorem dX10_walk_16 : decode cX10_walk 16 = .ok (.iconst 0, 1) := by decide +kernel
theorem dX10_walk_17 : decode cX10_walk 17 = .ok (.invokevirtual 138, 3) := by decide +kernel
theorem dX10_walk_20 : decode cX10_walk 20 = .ok (.istore_n 2, 1) := by decide +kernel
theorem dX10_walk_21 : decode cX10_walk 21 = .ok (.bipush 6, 2) := by decide +kernel
theorem dX10_walk_23 : decode cX10_walk 23 = .ok (.iload_n 1, 1) := by decide +kernel
theorem dX10_walk_24 : decode cX10_walk 24 = .ok (.imul, 1) := by decide +kernel
theorem dX10_walk_25 : decode cX10_walk 25 = .ok (.istore_n 3, 1) := by decide +kernel
theorem dX10_walk_26 : decode cX10_walk 26 = .ok (.iload_n 3, 1) := by decide +kernel
theorem dX10_walk_27 : decode cX10_walk 27 = .ok (.bipush 6, 2) := by decide +kernel
theorem dX10_walk_29 : decode cX10_walk 29 = .ok (.iload_n 1, 1) := by decide +kernel
theorem dX10_walk_30 : decode cX10_walk 30 = .ok (.imul, 1) := by decide +kernel
theorem dX10_walk_31 : decode cX10_walk 31 = .ok (.bipush 6, 2) := by decide +kernel
theorem dX10_walk_33 : decode cX10_walk 33 = .ok (.iadd, 1) := by decide +kernel
theorem dX10_walk_34 : decode cX10_walk 34 = .ok (.if_icmp .ge 21, 3) := by decide +kernel
theorem dX10_walk_37 : decode cX10_walk 37 = .ok (.aload_n 0, 1) := by decide +kernel
theorem dX10_walk_38 : decode cX10_walk 38 = .ok (.getfield 35, 3) := by decide +kernel
theorem dX10_walk_41 : decode cX10_walk 41 = .ok (.iload_n 3, 1) := by decide +kernel
theorem dX10_walk_42 : decode cX10_walk 42 = .ok (.aload_n 0, 1) := by decide +kernel
theorem dX10_walk_43 : decode cX10_walk 43 = .ok (.getfield 50, 3) := by decide +kernel
theorem dX10_walk_46 : decode cX10_walk 46 = .ok (.iload_n 3, 1) := by decide +kernel
theorem dX10_walk_47 : decode cX10_walk 47 = .ok (.iaload, 1) := by decide +kernel
theorem dX10_walk_48 : decode cX10_walk 48 = .ok (.iastore, 1) := by decide +kernel
theorem dX10_walk_49 : decode cX10_walk 49 = .ok (.iinc 3 1, 3) := by decide +kernel
theorem dX10_walk_52 : decode cX10_walk 52 = .ok (.goto (-26), 3) := by decide +kernel
theorem dX10_walk_55 : decode cX10_walk 55 = .ok (.aload_n 0, 1) := by decide +kernel
theorem dX10_walk_56 : decode cX10_walk 56 = .ok (.getfield 47, 3) := by decide +kernel
theorem dX10_walk_59 : decode cX10_walk 59 = .ok (.iload_n 1, 1) := by decide +kernel
theorem dX10_walk_60 : decode cX10_walk 60 = .ok (.aload_n 0, 1) := by decide +kernel
theorem dX10_walk_61 : decode cX10_walk 61 = .ok (.getfield 125, 3) := by decide +kernel
theorem dX10_walk_64 : decode cX10_walk 64 = .ok (.iastore, 1) := by decide +kernel
theorem dX10_walk_65 : decode cX10_walk 65 = .ok (.iload_n 2, 1) := by decide +kernel
theorem dX10_walk_66 : decode cX10_walk 66 = .ok (.ireturn, 1) := by decide +kernel
set_option maxRecDepth 20000 in
theorem ggX10_write_X10_in : GoodIn wsX10_write wsX10_in := goodIn_r _ [7] (by decide +kernel) (by decide +kernel)
set_option maxRecDepth 20000 in
theorem gX10_write_X10_in : GoodIn wsX10_write (va_wsS RX10 93 yX10_in wsX10_in) := goodIn_app (goodIn_of _ (by decide +kernel)) ggX10_write_X10_in
theorem dX10_write_0 : decode cX10_write 0 = .ok (.iload_n 3, 1) := by decide +kernel
theorem dX10_write_1 : decode cX10_write 1 = .ok (.iconst 1, 1) := by decide +kernel
theorem dX10_write_2 : decode cX10_write 2 = .ok (.bipush 8, 2) := by decide +kernel
theorem dX10_write_4 : decode cX10_write 4 = .ok (.invokestatic 93, 3) := by decide +kernel
theorem dX10_write_7 : decode cX10_write 7 = .ok (.ifCond .ne 6, 3) := by decide +kernel
theorem dX10_write_10 : decode cX10_write 10 = .ok (.bipush (-3), 2) := by decide +kernel
theorem dX10_write_12 : decode cX10_write 12 = .ok (.ireturn, 1) := by decide +kernel
theorem dX10_write_13 : decode cX10_write 13 = .ok (.aload_n 0, 1) := by decide +kernel
theorem dX10_write_14 : decode cX10_write 14 = .ok (.getfield 141, 3) := by decide +kernel
theorem dX10_write_17 : decode cX10_write 17 = .ok (.iload_n 3, 1) := by decide +kernel
theorem dX10_write_18 : decode cX10_write 18 = .ok (.iadd, 1) := by decide +kernel
theorem dX10_write_19 : decode cX10_write 19 = .ok (.sipush 160, 3) := by decide +kernel
theorem dX10_write_22 : decode cX10_write 22 = .ok (.if_icmp .le 6, 3) := by decide +kernel
theorem dX10_write_25 : decode cX10_write 25 = .ok (.bipush (-5), 2) := by decide +kernel
theorem dX10_write_27 : decode cX10_write 27 = .ok (.ireturn, 1) := by decide +kernel
theorem dX10_write_28 : decode cX10_write 28 = .ok (.iconst 0, 1) := by decide +kernel
theorem dX10_write_29 : decode cX10_write 29 = .ok (.istore 4, 2) := by decide +kernel
theorem dX10_write_31 : decode cX10_write 31 = .ok (.iload 4, 2) := by decide +kernel
theorem dX10_write_33 : decode cX10_write 33 = .ok (.iload_n 3, 1) := by decide +kernel
theorem dX10_write_34 : decode cX10_write 34 = .ok (.if_icmp .ge 33, 3) := by decide +kernel
theorem dX10_write_37 : decode cX10_write 37 = .ok (.aload_n 0, 1) := by decide +kernel
theorem dX10_write_38 : decode cX10_write 38 = .ok (.getfield 62, 3) := by decide +kernel
theorem dX10_write_41 : decode cX10_write 41 = .ok (.aload_n 0, 1) := by decide +kernel
theorem dX10_write_42 : decode cX10_write 42 = .ok (.getfield 141, 3) := by decide +kernel
theorem dX10_write_45 : decode cX10_write 45 = .ok (.iload 4, 2) := by decide +kernel
theorem dX10_write_47 : decode cX10_write 47 = .ok (.iadd, 1) := by decide +kernel
theorem dX10_write_48 : decode cX10_write 48 = .ok (.lload_n 1, 1) := by decide +kernel
theorem dX10_write_49 : decode cX10_write 49 = .ok (.bipush 8, 2) := by decide +kernel
theorem dX10_write_51 : decode cX10_write 51 = .ok (.iload 4, 2) := by decide +kernel
theorem dX10_write_53 : decode cX10_write 53 = .ok (.imul, 1) := by decide +kernel
theorem dX10_write_54 : decode cX10_write 54 = .ok (.lshr, 1) := by decide +kernel
theorem dX10_write_55 : decode cX10_write 55 = .ok (.ldc2_w 144, 3) := by decide +kernel
theorem dX10_write_58 : decode cX10_write 58 = .ok (.land, 1) := by decide +kernel
theorem dX10_write_59 : decode cX10_write 59 = .ok (.l2i, 1) := by decide +kernel
theorem dX10_write_60 : decode cX10_write 60 = .ok (.iastore, 1) := by decide +kernel
theorem dX10_write_61 : decode cX10_write 61 = .ok (.iinc 4 1, 3) := by decide +kernel
theorem dX10_write_64 : decode cX10_write 64 = .ok (.goto (-33), 3) := by decide +kernel
theorem dX10_write_67 : decode cX10_write 67 = .ok (.aload_n 0, 1) := by decide +kernel
theorem dX10_write_68 : decode cX10_write 68 = .ok (.dup, 1) := by decide +kernel
theorem dX10_write_69 : decode cX10_write 69 = .ok (.getfield 141, 3) := by decide +kernel
theorem dX10_write_72 : decode cX10_write 72 = .ok (.iload_n 3, 1) := by decide +kernel
theorem dX10_write_73 : decode cX10_write 73 = .ok (.iadd, 1) := by decide +kernel
theorem dX10_write_74 : decode cX10_write 74 = .ok (.putfield 141, 3) := by decide +kernel
theorem dX10_write_77 : decode cX10_write 77 = .ok (.aload_n 0, 1) := by decide +kernel
theorem dX10_write_78 : decode cX10_write 78 = .ok (.getfield 141, 3) := by decide +kernel
theorem dX10_write_81 : decode cX10_write 81 = .ok (.ireturn, 1) := by decide +kernel
theorem dX10_erase_0 : decode cX10_erase 0 = .ok (.aload_n 0, 1) := by decide +kernel
theorem dX10_erase_1 : decode cX10_erase 1 = .ok (.getfield 141, 3) := by decide +kernel
theorem dX10_erase_4 : decode cX10_erase 4 = .ok (.istore_n 1, 1) := by decide +kernel
theorem dX10_erase_5 : decode cX10_erase 5 = .ok (.aload_n 0, 1) := by decide +kernel
theorem dX10_erase_6 : decode cX10_erase 6 = .ok (.iconst 0, 1) := by decide +kernel
theorem dX10_erase_7 : decode cX10_erase 7 = .ok (.putfield 141, 3) := by decide +kernel
theorem dX10_erase_10 : decode cX10_erase 10 = .ok (.iload_n 1, 1) := by decide +kernel
theorem dX10_erase_11 : decode cX10_erase 11 = .ok (.ireturn, 1) := by decide +kernel
set_option maxHeartbeats 4000000 in
set_option maxRecDepth 100000 in
theorem k_X10_likeBeside (l : Launch) (dC : Nat → ClassId) (dI : Nat → Nat → Nat) (cI cZ cQ : ClassId) (b : Nat → Nat) (mday : Int32) (mdoo : Int32) (mdA : Nat → Int32) (mdB : Nat → Int32) (mfar : Nat → Int32) (mmar : Nat → Int32) (mtel : Int32) (mgai : Int32) (mfal : Nat → Int32) (mtop : Nat → Int32) (mstr : Nat → Int32) (mgho : Nat → Int32) (mfai : Nat → Int32) (mpto : Nat → Int32) (mwal : Nat → Int32) (mahd : Nat → Int32) (mahf : Nat → Int32) (mcho : Nat → Int32) (mbes : Nat → Int32) (mbyt : Int32) (mtxt : Nat → Int32) (mpos : Int32) (mtka : Int32) (mtok : Int64) (mdig : Int32) (mnum : Int32) (mfau : Int32) (mrdm : Int32) (mrea : Nat → Int32) (mlin : Int32) (mlne : Nat → Int32) (mthg : Nat → Int32) (mord : Nat → Int32) (mbor : Nat → Int32) (mbsm : Int32) (mans : Nat → Int32) (mand : Nat → Int32) (manr : Nat → Int32) (mali : Nat → Int32) (co : Int32) (r_mday : 0 ≤ mday.toInt ∧ mday.toInt ≤ 400) (r_mdoo : 0 ≤ mdoo.toInt ∧ mdoo.toInt ≤ 14) (r_mdA : rg 14 (0) (7) mdA) (r_mdB : rg 14 (0) (7) mdB) (r_mmar : rg 24 (0) (255) mmar) (r_mgai : 0 ≤ mgai.toInt ∧ mgai.toInt ≤ 100) (r_mfal : rg 11 (0) (30) mfal) (r_mtop : rg 48 (-1) (23) mtop) (r_mstr : rg 48 (0) (100) mstr) (r_mgho : rg 48 (-1) (23) mgho) (r_mfai : rg 48 (0) (100) mfai) (r_mahd : rg 240 (0) (100) mahd) (r_mahf : rg 240 (0) (100) mahf) (r_mcho : rg 5 (-1) (9) mcho) (r_mbyt : 0 ≤ mbyt.toInt ∧ mbyt.toInt ≤ 160) (r_mpos : 0 ≤ mpos.toInt ∧ mpos.toInt ≤ 160) (r_mrdm : 0 ≤ mrdm.toInt ∧ mrdm.toInt ≤ 10) (r_mlin : 0 ≤ mlin.toInt ∧ mlin.toInt ≤ 10) (r_mthg : rg 8 (0) (31) mthg) (r_mord : rg 8 (-1) (8) mord) (r_mans : rg 4 (0) (12) mans) (q0 : 0 ≤ co.toInt) (q1 : co.toInt ≤ 47) (q2 : 0 ≤ (mtop co.toNatClampNeg).toInt) : KR l yX10_likeBeside wsX10_likeBeside { frames := 1, cells := 0, slots := 0, locals := 25 } (dC, dI) (TY cI cZ cQ) (wMod cI cZ cQ b mday mdoo mdA mdB mfar mmar mtel mgai mfal mtop mstr mgho mfai mpto mwal mahd mahf mcho mbes mbyt mtxt mpos mtka mtok mdig mnum mfau mrdm mrea mlin mlne mthg mord mbor mbsm mans mand manr mali) [.ref (b 39), .int co] (fun r : Int32 => (0 ≤ r.toInt) ∧ (r.toInt ≤ 6)) := by
  refine Met.ofW (cc := cX10_likeBeside) (maxL := 4) (ret := (some .int)) (by decide) rfl ?_
  intro p e s m args below meth c s₁ B hml hv
  obtain ⟨rfl, hP, hK, hN⟩ := hv
  have hx := B.exec
  have hb := B.bytes
  have hr := B.returns
  have hts := atoms_spec (ws := wsX10_likeBeside) B.pre
  have hown : s.vm.findClass RX10 = some m.cls := findClass_of_methodNamed B.named
  have hlocks := B.notSynchronized
  have lf32 := hts (.fieldLink RX10 32 "PalaceOfRoomsModel" "top" "[I") (by decide +kernel)
  have inX10 : ∀ w ∈ wsX100, w ∈ wsX10_likeBeside := by decide +kernel
  have lf22 := hts (.fieldLink RX10 22 "PalaceOfRoomsModel" "tell" "I") (by decide +kernel)
  have hl := lv_entry ([.ref (b 39), .int co]) (n := 4) (Nat.le_of_ble_eq_true rfl)
  rw [lg_entry_eq]
  generalize (lg_sl ([.ref (b 39), .int co]) ++ List.replicate (4 - (lg_sl ([.ref (b 39), .int co])).length) Slot.unset).toArray = ls at hl ⊢
  have hl : lv_has ls 4 [(0, .ref (b 39)), (1, .int co)] := hl
  refine lv_iconst (v := 0) hx hb dX10_likeBeside_0 (by decide) ?_
  refine lv_istore_n (lv' := [(2, .int 0), (0, .ref (b 39)), (1, .int co)]) hx hb dX10_likeBeside_1 rfl hl (by decide) rfl (fun ls hl => ?_)
  refine lv_iload_n hx hb dX10_likeBeside_2 rfl (lv_at hl 2 rfl) ?_
  refine lv_bipush (v := 6) hx hb dX10_likeBeside_3 (by decide) ?_
  refine lv_idiv hx hb dX10_likeBeside_5 (by decide) ?_
  have f1 : (co / 6).toInt = (co.toInt) / (6) := divC rfl (show (6 : Int32).toInt = 6 from rfl) (by omega) (by omega)
  refine lv_bipush (v := 6) hx hb dX10_likeBeside_6 (by decide) ?_
  refine lv_imul hx hb dX10_likeBeside_8 ?_
  have f2 : ((co / 6) * 6).toInt = ((co.toInt) / (6)) * (6) := mulC f1 (show (6 : Int32).toInt = 6 from rfl) (by omega) (by omega)
  refine lv_topi (fun x3 ex3 => ?_)
  have ix3 : x3.toInt = ((co.toInt) / (6)) * (6) := by rw [ex3]; exact f2
  refine lv_istore_n (lv' := [(3, .int x3), (2, .int 0), (0, .ref (b 39)), (1, .int co)]) hx hb dX10_likeBeside_9 rfl hl (by decide) rfl (fun ls hl => ?_)
  have L10 : ∀ (nn : Nat) (y10_2 : Int32) (y10_3 : Int32) (ls : Array Slot), (0 ≤ (y10_3.toInt)) → ((y10_3.toInt) ≤ 48) → (0 ≤ (y10_2.toInt)) → ((y10_2.toInt) ≤ (y10_3.toInt) - (co.toInt) / 6 * 6) → ((y10_2.toInt) ≤ 6) → ((co.toInt) / 6 * 6 ≤ (y10_3.toInt)) → ((y10_3.toInt) ≤ (co.toInt) / 6 * 6 + 6) → (48 - (y10_3.toInt)).toNat < nn → lv_has ls 4 [(0, .ref (b 39)), (1, .int co), (2, .int y10_2), (3, .int y10_3)] → W p l e (headSpec wsX10_likeBeside { frames := 1, cells := 0, slots := 0, locals := 25 }).room s m ([.ref (b 39), .int co] : List Value).toArray below meth c s.heap [] 0 0 (MQ below (QR (fun r : Int32 => (0 ≤ r.toInt) ∧ (r.toInt ≤ 6))) ([.ref (b 39), .int co] : List Value).toArray s 0 0 (fun _ => False)) (F0 m 10 ls []) := by
    intro nn
    induction nn with
    | zero =>
      intro y10_2 y10_3 ls i10_0 i10_1 i10_2 i10_3 i10_4 i10_5 i10_6 hm
      exact absurd hm (Nat.not_lt_zero _)
    | succ nn ih10 =>
      intro y10_2 y10_3 ls i10_0 i10_1 i10_2 i10_3 i10_4 i10_5 i10_6 hm hl
      refine lv_iload_n hx hb dX10_likeBeside_10 rfl (lv_at hl 3 rfl) ?_
      refine lv_iload_n hx hb dX10_likeBeside_11 rfl (lv_at hl 1 rfl) ?_
      refine lv_bipush (v := 6) hx hb dX10_likeBeside_12 (by decide) ?_
      refine lv_idiv hx hb dX10_likeBeside_14 (by decide) ?_
      have f4 : (co / 6).toInt = (co.toInt) / (6) := divC rfl (show (6 : Int32).toInt = 6 from rfl) (by omega) (by omega)
      refine lv_bipush (v := 6) hx hb dX10_likeBeside_15 (by decide) ?_
      refine lv_imul hx hb dX10_likeBeside_17 ?_
      have f5 : ((co / 6) * 6).toInt = ((co.toInt) / (6)) * (6) := mulC f4 (show (6 : Int32).toInt = 6 from rfl) (by omega) (by omega)
      refine lv_bipush (v := 6) hx hb dX10_likeBeside_18 (by decide) ?_
      refine lv_iadd hx hb dX10_likeBeside_20 ?_
      have f6 : (((co / 6) * 6) + 6).toInt = (((co.toInt) / (6)) * (6)) + (6) := addC f5 (show (6 : Int32).toInt = 6 from rfl) (by omega) (by omega)
      refine lv_icmp_ge (tgt := 76) hx hb dX10_likeBeside_21 (by decide) (fun c7 => ?_) (fun c7 => ?_)
      · have dc7 : (((co.toInt) / (6)) * (6)) + (6) ≤ y10_3.toInt := leC f6 rfl c7
        refine lv_iload_n hx hb dX10_likeBeside_76 rfl (lv_at hl 2 rfl) ?_
        exact W.iret (v := y10_2) hx hb hr (fun tq ht hW => ⟨y10_2, rfl, ⟨(show 0 ≤ y10_2.toInt from by omega), (show y10_2.toInt ≤ 6 from by omega)⟩, ht⟩) (fun q h => by cases h) dX10_likeBeside_77
      · have dc7 : y10_3.toInt < (((co.toInt) / (6)) * (6)) + (6) := nleC f6 rfl c7
        refine lv_iload_n hx hb dX10_likeBeside_24 rfl (lv_at hl 2 rfl) ?_
        refine lv_iload_n hx hb dX10_likeBeside_25 rfl (lv_at hl 3 rfl) ?_
        refine lv_iload_n hx hb dX10_likeBeside_26 rfl (lv_at hl 1 rfl) ?_
        refine lv_icmp_eq (tgt := 67) hx hb dX10_likeBeside_27 (by decide) (fun c8 => ?_) (fun c8 => ?_)
        · have dc8 : y10_3.toInt = co.toInt := eqC rfl rfl c8
          refine lv_iconst (v := 0) hx hb dX10_likeBeside_67 (by decide) ?_
          refine lv_iadd hx hb dX10_likeBeside_68 ?_
          have f9 : (y10_2 + 0).toInt = (y10_2.toInt) + (0) := addC rfl (show (0 : Int32).toInt = 0 from rfl) (by omega) (by omega)
          refine lv_topi (fun x10 ex10 => ?_)
          have ix10 : x10.toInt = (y10_2.toInt) + (0) := by rw [ex10]; exact f9
          refine lv_istore_n (lv' := [(2, .int x10), (0, .ref (b 39)), (1, .int co), (3, .int y10_3)]) hx hb dX10_likeBeside_69 rfl hl (by decide) rfl (fun ls hl => ?_)
          obtain ⟨z11, ez11⟩ : ∃ y : Int32, y = y10_3 + 1 := ⟨_, rfl⟩
          have iz11 : z11.toInt = y10_3.toInt + 1 := by rw [ez11]; exact addC rfl rfl (by omega) (by omega)
          refine lv_iinc (v := z11) (lv' := [(3, .int z11), (2, .int x10), (0, .ref (b 39)), (1, .int co)]) hx hb dX10_likeBeside_70 hl (k := 3) rfl (by rw [ez11]; rfl) (by decide) rfl (fun ls hl => ?_)
          refine lv_goto (tgt := 10) hx hb dX10_likeBeside_73 (by decide) ?_
          exact ih10 x10 z11 _ (by omega) (by omega) (by omega) (by omega) (by omega) (by omega) (by omega) (by omega) (lv_sub hl [2, 3, 1, 0] rfl)
        · have dc8 : y10_3.toInt ≠ co.toInt := neC rfl rfl c8
          refine lv_aload_n hx hb dX10_likeBeside_30 rfl (lv_at hl 0 rfl) ?_
          refine va_get (D := (dC, dI)) (ci := 10) (v := .ref (b 9)) (C := RX10) (T := TX10) (N := 39) hx hb hts inX10 hown hK hP 0 rfl rfl 9 (by decide) lf32 (fun _ h9 => h9) rfl dX10_likeBeside_31 ?_
          refine lv_iload_n hx hb dX10_likeBeside_34 rfl (lv_at hl 3 rfl) ?_
          have b12 : vp_in y10_3 48 := inC rfl (by omega) (by omega)
          refine va_iald hx hb hK hP 6 0 rfl rfl b12 dX10_likeBeside_35 ?_
          have g13 : -1 ≤ (mtop y10_3.toNatClampNeg).toInt ∧ (mtop y10_3.toNatClampNeg).toInt ≤ 23 := rg_at r_mtop b12
          refine lv_iconst (v := (-1)) hx hb dX10_likeBeside_36 (by decide) ?_
          refine lv_icmp_eq (tgt := 67) hx hb dX10_likeBeside_37 (by decide) (fun c14 => ?_) (fun c14 => ?_)
          · have dc14 : (mtop y10_3.toNatClampNeg).toInt = (-1) := eqC rfl (show ((-1) : Int32).toInt = (-1) from rfl) c14
            refine lv_iconst (v := 0) hx hb dX10_likeBeside_67 (by decide) ?_
            refine lv_iadd hx hb dX10_likeBeside_68 ?_
            have f15 : (y10_2 + 0).toInt = (y10_2.toInt) + (0) := addC rfl (show (0 : Int32).toInt = 0 from rfl) (by omega) (by omega)
            refine lv_topi (fun x16 ex16 => ?_)
            have ix16 : x16.toInt = (y10_2.toInt) + (0) := by rw [ex16]; exact f15
            refine lv_istore_n (lv' := [(2, .int x16), (0, .ref (b 39)), (1, .int co), (3, .int y10_3)]) hx hb dX10_likeBeside_69 rfl hl (by decide) rfl (fun ls hl => ?_)
            obtain ⟨z17, ez17⟩ : ∃ y : Int32, y = y10_3 + 1 := ⟨_, rfl⟩
            have iz17 : z17.toInt = y10_3.toInt + 1 := by rw [ez17]; exact addC rfl rfl (by omega) (by omega)
            refine lv_iinc (v := z17) (lv' := [(3, .int z17), (2, .int x16), (0, .ref (b 39)), (1, .int co)]) hx hb dX10_likeBeside_70 hl (k := 3) rfl (by rw [ez17]; rfl) (by decide) rfl (fun ls hl => ?_)
            refine lv_goto (tgt := 10) hx hb dX10_likeBeside_73 (by decide) ?_
            exact ih10 x16 z17 _ (by omega) (by omega) (by omega) (by omega) (by omega) (by omega) (by omega) (by omega) (lv_sub hl [2, 3, 1, 0] rfl)
          · have dc14 : (mtop y10_3.toNatClampNeg).toInt ≠ (-1) := neC rfl (show ((-1) : Int32).toInt = (-1) from rfl) c14
            refine lv_aload_n hx hb dX10_likeBeside_40 rfl (lv_at hl 0 rfl) ?_
            refine lv_aload_n hx hb dX10_likeBeside_41 rfl (lv_at hl 0 rfl) ?_
            refine va_get (D := (dC, dI)) (ci := 10) (v := .ref (b 9)) (C := RX10) (T := TX10) (N := 39) hx hb hts inX10 hown hK hP 0 rfl rfl 9 (by decide) lf32 (fun _ h9 => h9) rfl dX10_likeBeside_42 ?_
            refine lv_iload_n hx hb dX10_likeBeside_45 rfl (lv_at hl 3 rfl) ?_
            have b18 : vp_in y10_3 48 := inC rfl (by omega) (by omega)
            refine va_iald hx hb hK hP 6 0 rfl rfl b18 dX10_likeBeside_46 ?_
            have g19 : -1 ≤ (mtop y10_3.toNatClampNeg).toInt ∧ (mtop y10_3.toNatClampNeg).toInt ≤ 23 := rg_at r_mtop b18
            refine lv_aload_n hx hb dX10_likeBeside_47 rfl (lv_at hl 0 rfl) ?_
            refine va_get (D := (dC, dI)) (ci := 10) (v := .ref (b 9)) (C := RX10) (T := TX10) (N := 39) hx hb hts inX10 hown hK hP 0 rfl rfl 9 (by decide) lf32 (fun _ h9 => h9) rfl dX10_likeBeside_48 ?_
            refine lv_iload_n hx hb dX10_likeBeside_51 rfl (lv_at hl 1 rfl) ?_
            have b20 : vp_in co 48 := inC rfl (by omega) (by omega)
            refine va_iald hx hb hK hP 6 0 rfl rfl b20 dX10_likeBeside_52 ?_
            have g21 : -1 ≤ (mtop co.toNatClampNeg).toInt ∧ (mtop co.toNatClampNeg).toInt ≤ 23 := rg_at r_mtop b20
            refine rdV (As := [.int (mtop y10_3.toNatClampNeg), .int (mtop co.toNatClampNeg)]) (rest := [.int y10_2]) ⟨hx, hb, hml, hown, hts⟩ (k_X10_likeness l dC dI cI cZ cQ b mday mdoo mdA mdB mfar mmar mtel mgai mfal mtop mstr mgho mfai mpto mwal mahd mahf mcho mbes mbyt mtxt mpos mtka mtok mdig mnum mfau mrdm mrea mlin mlne mthg mord mbor mbsm mans mand manr mali (mtop y10_3.toNatClampNeg) (mtop co.toNatClampNeg) r_mday r_mdoo r_mdA r_mdB r_mmar r_mgai r_mfal r_mtop r_mstr r_mgho r_mfai r_mahd r_mahf r_mcho r_mbyt r_mpos r_mrdm r_mlin r_mthg r_mord r_mans (by omega) (by omega) (by omega) (by omega)) (cwV 2 hts gX10_likeBeside_X10_likeness rfl rfl rfl (by decide +kernel) ⟨Nat.le_of_ble_eq_true rfl, Nat.le_of_ble_eq_true rfl⟩) hP hK hN [0, 1, 2, 3, 4, 5, 6, 7, 8, 9, 10, 11, 12, 13, 14, 15, 16, 17, 18, 19, 20, 21, 22, 23, 24, 25] rfl 0 10 rfl rfl rfl hl.1 rfl (Nat.le_of_ble_eq_true rfl) dX10_likeBeside_53 ⟨Nat.le_of_ble_eq_true rfl, Nat.le_of_ble_eq_true rfl⟩ (fun r22 h23 => ?_)
            have h23 : (r22 = bc (mmar (mtop y10_3.toNatClampNeg).toNatClampNeg &&& mmar (mtop co.toNatClampNeg).toNatClampNeg)) := h23
            have h23_0 := h23
            refine lv_aload_n hx hb dX10_likeBeside_56 rfl (lv_at hl 0 rfl) ?_
            refine va_get (D := (dC, dI)) (ci := 10) (v := .int mtel) (C := RX10) (T := TX10) (N := 39) hx hb hts inX10 hown hK hP 0 rfl rfl 6 (by decide) lf22 (fun _ h9 => h9) rfl dX10_likeBeside_57 ?_
            refine lv_icmp_lt (tgt := 67) hx hb dX10_likeBeside_60 (by decide) (fun c24 => ?_) (fun c24 => ?_)
            · have dc24 : r22.toInt < mtel.toInt := ltC rfl rfl c24
              refine lv_iconst (v := 0) hx hb dX10_likeBeside_67 (by decide) ?_
              refine lv_iadd hx hb dX10_likeBeside_68 ?_
              have f25 : (y10_2 + 0).toInt = (y10_2.toInt) + (0) := addC rfl (show (0 : Int32).toInt = 0 from rfl) (by omega) (by omega)
              refine lv_topi (fun x26 ex26 => ?_)
              have ix26 : x26.toInt = (y10_2.toInt) + (0) := by rw [ex26]; exact f25
              refine lv_istore_n (lv' := [(2, .int x26), (0, .ref (b 39)), (1, .int co), (3, .int y10_3)]) hx hb dX10_likeBeside_69 rfl hl (by decide) rfl (fun ls hl => ?_)
              obtain ⟨z27, ez27⟩ : ∃ y : Int32, y = y10_3 + 1 := ⟨_, rfl⟩
              have iz27 : z27.toInt = y10_3.toInt + 1 := by rw [ez27]; exact addC rfl rfl (by omega) (by omega)
              refine lv_iinc (v := z27) (lv' := [(3, .int z27), (2, .int x26), (0, .ref (b 39)), (1, .int co)]) hx hb dX10_likeBeside_70 hl (k := 3) rfl (by rw [ez27]; rfl) (by decide) rfl (fun ls hl => ?_)
              refine lv_goto (tgt := 10) hx hb dX10_likeBeside_73 (by decide) ?_
              exact ih10 x26 z27 _ (by omega) (by omega) (by omega) (by omega) (by omega) (by omega) (by omega) (by omega) (lv_sub hl [2, 3, 1, 0] rfl)
            · have dc24 : mtel.toInt ≤ r22.toInt := nltC rfl rfl c24
              refine lv_iconst (v := 1) hx hb dX10_likeBeside_63 (by decide) ?_
              refine lv_goto (tgt := 68) hx hb dX10_likeBeside_64 (by decide) ?_
              refine lv_iadd hx hb dX10_likeBeside_68 ?_
              have f28 : (y10_2 + 1).toInt = (y10_2.toInt) + (1) := addC rfl (show (1 : Int32).toInt = 1 from rfl) (by omega) (by omega)
              refine lv_topi (fun x29 ex29 => ?_)
              have ix29 : x29.toInt = (y10_2.toInt) + (1) := by rw [ex29]; exact f28
              refine lv_istore_n (lv' := [(2, .int x29), (0, .ref (b 39)), (1, .int co), (3, .int y10_3)]) hx hb dX10_likeBeside_69 rfl hl (by decide) rfl (fun ls hl => ?_)
              obtain ⟨z30, ez30⟩ : ∃ y : Int32, y = y10_3 + 1 := ⟨_, rfl⟩
              have iz30 : z30.toInt = y10_3.toInt + 1 := by rw [ez30]; exact addC rfl rfl (by omega) (by omega)
              refine lv_iinc (v := z30) (lv' := [(3, .int z30), (2, .int x29), (0, .ref (b 39)), (1, .int co)]) hx hb dX10_likeBeside_70 hl (k := 3) rfl (by rw [ez30]; rfl) (by decide) rfl (fun ls hl => ?_)
              refine lv_goto (tgt := 10) hx hb dX10_likeBeside_73 (by decide) ?_
              exact ih10 x29 z30 _ (by omega) (by omega) (by omega) (by omega) (by omega) (by omega) (by omega) (by omega) (lv_sub hl [2, 3, 1, 0] rfl)
  have kc31 : (0 : Int32).toInt = 0 := rfl
  exact L10 _ 0 x3 _ (by omega) (by omega) (by omega) (by omega) (by omega) (by omega) (by omega) (Nat.lt_succ_self _) (lv_sub hl [2, 3, 1, 0] rfl)
set_option maxHeartbeats 4000000 in
set_option maxRecDepth 100000 in
theorem k_X10_goDay (l : Launch) (dC : Nat → ClassId) (dI : Nat → Nat → Nat) (cI cZ cQ : ClassId) (b : Nat → Nat) (mday : Int32) (mdoo : Int32) (mdA : Nat → Int32) (mdB : Nat → Int32) (mfar : Nat → Int32) (mmar : Nat → Int32) (mtel : Int32) (mgai : Int32) (mfal : Nat → Int32) (mtop : Nat → Int32) (mstr : Nat → Int32) (mgho : Nat → Int32) (mfai : Nat → Int32) (mpto : Nat → Int32) (mwal : Nat → Int32) (mahd : Nat → Int32) (mahf : Nat → Int32) (mcho : Nat → Int32) (mbes : Nat → Int32) (mbyt : Int32) (mtxt : Nat → Int32) (mpos : Int32) (mtka : Int32) (mtok : Int64) (mdig : Int32) (mnum : Int32) (mfau : Int32) (mrdm : Int32) (mrea : Nat → Int32) (mlin : Int32) (mlne : Nat → Int32) (mthg : Nat → Int32) (mord : Nat → Int32) (mbor : Nat → Int32) (mbsm : Int32) (mans : Nat → Int32) (mand : Nat → Int32) (manr : Nat → Int32) (mali : Nat → Int32) (sz : Nat) (fr : Int32) (to : Int32) (r_mday : 0 ≤ mday.toInt ∧ mday.toInt ≤ 400) (r_mdoo : 0 ≤ mdoo.toInt ∧ mdoo.toInt ≤ 14) (r_mdA : rg 14 (0) (7) mdA) (r_mdB : rg 14 (0) (7) mdB) (r_mmar : rg 24 (0) (255) mmar) (r_mgai : 0 ≤ mgai.toInt ∧ mgai.toInt ≤ 100) (r_mfal : rg 11 (0) (30) mfal) (r_mtop : rg 48 (-1) (23) mtop) (r_mstr : rg 48 (0) (100) mstr) (r_mgho : rg 48 (-1) (23) mgho) (r_mfai : rg 48 (0) (100) mfai) (r_mahd : rg 240 (0) (100) mahd) (r_mahf : rg 240 (0) (100) mahf) (r_mcho : rg 5 (-1) (9) mcho) (r_mbyt : 0 ≤ mbyt.toInt ∧ mbyt.toInt ≤ 160) (r_mpos : 0 ≤ mpos.toInt ∧ mpos.toInt ≤ 160) (r_mrdm : 0 ≤ mrdm.toInt ∧ mrdm.toInt ≤ 10) (r_mlin : 0 ≤ mlin.toInt ∧ mlin.toInt ≤ 10) (r_mthg : rg 8 (0) (31) mthg) (r_mord : rg 8 (-1) (8) mord) (r_mans : rg 4 (0) (12) mans) (q0 : 0 ≤ fr.toInt) (q1 : fr.toInt ≤ 192) (q2 : 0 ≤ to.toInt) (q3 : to.toInt ≤ 192) : KV l yX10_goDay wsX10_goDay { frames := 2, cells := 0, slots := 0, locals := 48 } (dC, dI) (TY cI cZ cQ) (wMod cI cZ cQ b mday mdoo mdA mdB mfar mmar mtel mgai mfal mtop mstr mgho mfai mpto mwal mahd mahf mcho mbes mbyt mtxt mpos mtka mtok mdig mnum mfau mrdm mrea mlin mlne mthg mord mbor mbsm mans mand manr mali) [.ref (b 39), .int fr, .int to] sz 0 0 (fun (u : US) => (rg 240 (0) (100) (u.1 0)) ∧ (rg 240 (0) (100) (u.1 1))) (fun u : US => (wMod cI cZ cQ b mday mdoo mdA mdB mfar mmar mtel mgai mfal mtop mstr mgho mfai mpto mwal (u.1 0) (u.1 1) mcho mbes mbyt mtxt mpos mtka mtok mdig mnum mfau mrdm mrea mlin mlne mthg mord mbor mbsm mans mand manr mali)) := by
  refine Met.ofW (cc := cX10_goDay) (maxL := 6) (ret := none) (by decide) rfl ?_
  intro p e s m args below meth c s₁ B hml hv
  obtain ⟨rfl, hsz, hP, hK, hD0, hN⟩ := hv
  have hx := B.exec
  have hb := B.bytes
  have hr := B.returns
  have hts := atoms_spec (ws := wsX10_goDay) B.pre
  have hown : s.vm.findClass RX10 = some m.cls := findClass_of_methodNamed B.named
  have hlocks := B.notSynchronized
  have lf50 := hts (.fieldLink RX10 50 "PalaceOfRoomsModel" "ahead" "[I") (by decide +kernel)
  have inX10 : ∀ w ∈ wsX100, w ∈ wsX10_goDay := by decide +kernel
  have lf53 := hts (.fieldLink RX10 53 "PalaceOfRoomsModel" "aheadFaint" "[I") (by decide +kernel)
  have lf32 := hts (.fieldLink RX10 32 "PalaceOfRoomsModel" "top" "[I") (by decide +kernel)
  have lf29 := hts (.fieldLink RX10 29 "PalaceOfRoomsModel" "falls" "[I") (by decide +kernel)
  subst hsz
  have hD := hD0.self (sz := s.heap.size)
  generalize hAe : va_A (wMod cI cZ cQ b mday mdoo mdA mdB mfar mmar mtel mgai mfal mtop mstr mgho mfai mpto mwal mahd mahf mcho mbes mbyt mtxt mpos mtka mtok mdig mnum mfau mrdm mrea mlin mlne mthg mord mbor mbsm mans mand manr mali) s.heap.size = A at hD ⊢
  have hA : ∀ q : Nat, s.heap.size ≤ q → A q := fun q h => by rw [← hAe]; exact Or.inr h
  have hS : va_S A s.heap s.heap [] := va_S.rf
  have hl := lv_entry ([.ref (b 39), .int fr, .int to]) (n := 6) (Nat.le_of_ble_eq_true rfl)
  rw [lg_entry_eq]
  generalize (lg_sl ([.ref (b 39), .int fr, .int to]) ++ List.replicate (6 - (lg_sl ([.ref (b 39), .int fr, .int to])).length) Slot.unset).toArray = ls at hl ⊢
  have hl : lv_has ls 6 [(0, .ref (b 39)), (1, .int fr), (2, .int to)] := hl
  refine lv_iconst (v := 0) hx hb dX10_goDay_0 (by decide) ?_
  refine lv_istore_n (lv' := [(3, .int 0), (0, .ref (b 39)), (1, .int fr), (2, .int to)]) hx hb dX10_goDay_1 rfl hl (by decide) rfl (fun ls hl => ?_)
  have L2 : ∀ (nn : Nat) (y2_3 : Int32) (mahd_2 : Nat → Int32) (mahf_2 : Nat → Int32) (H : Heap) (locs : List Loc) (ls : Array Slot), (rg 240 (0) (100) mahd_2) → (rg 240 (0) (100) mahf_2) → (0 ≤ (y2_3.toInt)) → ((y2_3.toInt) ≤ 48) → (48 - (y2_3.toInt)).toNat < nn → va_P (dC, dI) vwCl (wMod cI cZ cQ b mday mdoo mdA mdB mfar mmar mtel mgai mfal mtop mstr mgho mfai mpto mwal mahd_2 mahf_2 mcho mbes mbyt mtxt mpos mtka mtok mdig mnum mfau mrdm mrea mlin mlne mthg mord mbor mbsm mans mand manr mali) H → va_D A (wMod cI cZ cQ b mday mdoo mdA mdB mfar mmar mtel mgai mfal mtop mstr mgho mfai mpto mwal mahd_2 mahf_2 mcho mbes mbyt mtxt mpos mtka mtok mdig mnum mfau mrdm mrea mlin mlne mthg mord mbor mbsm mans mand manr mali) → va_S A s.heap H locs → lv_has ls 6 [(0, .ref (b 39)), (1, .int fr), (2, .int to), (3, .int y2_3)] → W p l e (headSpec wsX10_goDay { frames := 2, cells := 0, slots := 0, locals := 48 }).room s m ([.ref (b 39), .int fr, .int to] : List Value).toArray below meth c H locs 0 0 (MQ below (va_Qv (fun (u : US) => (rg 240 (0) (100) (u.1 0)) ∧ (rg 240 (0) (100) (u.1 1))) (Bw (dC, dI) A (fun u : US => (wMod cI cZ cQ b mday mdoo mdA mdB mfar mmar mtel mgai mfal mtop mstr mgho mfai mpto mwal (u.1 0) (u.1 1) mcho mbes mbyt mtxt mpos mtka mtok mdig mnum mfau mrdm mrea mlin mlne mthg mord mbor mbsm mans mand manr mali))) A) ([.ref (b 39), .int fr, .int to] : List Value).toArray s 0 0 A) (F0 m 2 ls []) := by
    intro nn
    induction nn with
    | zero =>
      intro y2_3 mahd_2 mahf_2 H locs ls r_mahd_2 r_mahf_2 i2_0 i2_1 hm
      exact absurd hm (Nat.not_lt_zero _)
    | succ nn ih2 =>
      intro y2_3 mahd_2 mahf_2 H locs ls r_mahd_2 r_mahf_2 i2_0 i2_1 hm hP hD hS hl
      refine lv_iload_n hx hb dX10_goDay_2 rfl (lv_at hl 3 rfl) ?_
      refine lv_bipush (v := 48) hx hb dX10_goDay_3 (by decide) ?_
      refine lv_icmp_ge (tgt := 122) hx hb dX10_goDay_5 (by decide) (fun c1 => ?_) (fun c1 => ?_)
      · have dc1 : 48 ≤ y2_3.toInt := leC (show (48 : Int32).toInt = 48 from rfl) rfl c1
        exact W.vret hx hb hr (fun tq ht hW => ⟨⟨(uS [mahd_2, mahf_2] 0 (fun _ => 0)), rfl, ⟨r_mahd_2, r_mahf_2⟩, by rw [ht]; exact hP, hD⟩, hS.F ht⟩) hS.2.2 dX10_goDay_122
      · have dc1 : y2_3.toInt < 48 := nleC (show (48 : Int32).toInt = 48 from rfl) rfl c1
        refine lv_aload_n hx hb dX10_goDay_8 rfl (lv_at hl 0 rfl) ?_
        refine va_get (D := (dC, dI)) (ci := 10) (v := .ref (b 15)) (C := RX10) (T := TX10) (N := 39) hx hb hts inX10 hown hK hP 0 rfl rfl 15 (by decide) lf50 (fun _ h9 => h9) rfl dX10_goDay_9 ?_
        refine lv_iload_n hx hb dX10_goDay_12 rfl (lv_at hl 1 rfl) ?_
        refine lv_iload_n hx hb dX10_goDay_13 rfl (lv_at hl 3 rfl) ?_
        refine lv_iadd hx hb dX10_goDay_14 ?_
        have f2 : (fr + y2_3).toInt = (fr.toInt) + (y2_3.toInt) := addC rfl rfl (by omega) (by omega)
        have b3 : vp_in (fr + y2_3) 240 := inC f2 (by omega) (by omega)
        refine va_iald hx hb hK hP 12 0 rfl rfl b3 dX10_goDay_15 ?_
        have g4 : 0 ≤ (mahd_2 (fr + y2_3).toNatClampNeg).toInt ∧ (mahd_2 (fr + y2_3).toNatClampNeg).toInt ≤ 100 := rg_at r_mahd_2 b3
        refine lv_topi (fun x5 ex5 => ?_)
        have ix5 : x5.toInt = (mahd_2 (fr + y2_3).toNatClampNeg).toInt := by rw [ex5]
        refine lv_istore (lv' := [(4, .int x5), (0, .ref (b 39)), (1, .int fr), (2, .int to), (3, .int y2_3)]) hx hb dX10_goDay_16 hl (by decide) rfl (fun ls hl => ?_)
        refine lv_aload_n hx hb dX10_goDay_18 rfl (lv_at hl 1 rfl) ?_
        refine va_get (D := (dC, dI)) (ci := 10) (v := .ref (b 16)) (C := RX10) (T := TX10) (N := 39) hx hb hts inX10 hown hK hP 0 rfl rfl 16 (by decide) lf53 (fun _ h9 => h9) rfl dX10_goDay_19 ?_
        refine lv_iload_n hx hb dX10_goDay_22 rfl (lv_at hl 2 rfl) ?_
        refine lv_iload_n hx hb dX10_goDay_23 rfl (lv_at hl 4 rfl) ?_
        refine lv_iadd hx hb dX10_goDay_24 ?_
        have f6 : (fr + y2_3).toInt = (fr.toInt) + (y2_3.toInt) := addC rfl rfl (by omega) (by omega)
        have b7 : vp_in (fr + y2_3) 240 := inC f6 (by omega) (by omega)
        refine va_iald hx hb hK hP 13 0 rfl rfl b7 dX10_goDay_25 ?_
        have g8 : 0 ≤ (mahf_2 (fr + y2_3).toNatClampNeg).toInt ∧ (mahf_2 (fr + y2_3).toNatClampNeg).toInt ≤ 100 := rg_at r_mahf_2 b7
        refine lv_topi (fun x9 ex9 => ?_)
        have ix9 : x9.toInt = (mahf_2 (fr + y2_3).toNatClampNeg).toInt := by rw [ex9]
        refine lv_istore (lv' := [(5, .int x9), (4, .int x5), (0, .ref (b 39)), (1, .int fr), (2, .int to), (3, .int y2_3)]) hx hb dX10_goDay_26 hl (by decide) rfl (fun ls hl => ?_)
        refine lv_aload_n hx hb dX10_goDay_28 rfl (lv_at hl 2 rfl) ?_
        refine va_get (D := (dC, dI)) (ci := 10) (v := .ref (b 9)) (C := RX10) (T := TX10) (N := 39) hx hb hts inX10 hown hK hP 0 rfl rfl 9 (by decide) lf32 (fun _ h9 => h9) rfl dX10_goDay_29 ?_
        refine lv_iload_n hx hb dX10_goDay_32 rfl (lv_at hl 5 rfl) ?_
        have b10 : vp_in y2_3 48 := inC rfl (by omega) (by omega)
        refine va_iald hx hb hK hP 6 0 rfl rfl b10 dX10_goDay_33 ?_
        have g11 : -1 ≤ (mtop y2_3.toNatClampNeg).toInt ∧ (mtop y2_3.toNatClampNeg).toInt ≤ 23 := rg_at r_mtop b10
        refine lv_iconst (v := (-1)) hx hb dX10_goDay_34 (by decide) ?_
        refine lv_icmp_ne (tgt := 42) hx hb dX10_goDay_35 (by decide) (fun c12 => ?_) (fun c12 => ?_)
        · have dc12 : (mtop y2_3.toNatClampNeg).toInt ≠ (-1) := neC rfl (show ((-1) : Int32).toInt = (-1) from rfl) c12
          refine lv_iload hx hb dX10_goDay_42 (lv_at hl 1 rfl) ?_
          refine lv_aload_n hx hb dX10_goDay_44 rfl (lv_at hl 2 rfl) ?_
          refine va_get (D := (dC, dI)) (ci := 10) (v := .ref (b 8)) (C := RX10) (T := TX10) (N := 39) hx hb hts inX10 hown hK hP 0 rfl rfl 8 (by decide) lf29 (fun _ h9 => h9) rfl dX10_goDay_45 ?_
          refine lv_iload hx hb dX10_goDay_48 (lv_at hl 1 rfl) ?_
          refine lv_bipush (v := 10) hx hb dX10_goDay_50 (by decide) ?_
          refine lv_idiv hx hb dX10_goDay_52 (by decide) ?_
          have f13 : (x5 / 10).toInt = (x5.toInt) / (10) := divC rfl (show (10 : Int32).toInt = 10 from rfl) (by omega) (by omega)
          have b14 : vp_in (x5 / 10) 11 := inC f13 (by omega) (by omega)
          refine va_iald hx hb hK hP 5 0 rfl rfl b14 dX10_goDay_53 ?_
          have g15 : 0 ≤ (mfal (x5 / 10).toNatClampNeg).toInt ∧ (mfal (x5 / 10).toNatClampNeg).toInt ≤ 30 := rg_at r_mfal b14
          refine lv_isub hx hb dX10_goDay_54 ?_
          have f16 : (x5 - (mfal (x5 / 10).toNatClampNeg)).toInt = (x5.toInt) - ((mfal (x5 / 10).toNatClampNeg).toInt) := subC rfl rfl (by omega) (by omega)
          refine lv_aload_n hx hb dX10_goDay_55 rfl (lv_at hl 2 rfl) ?_
          refine lv_iload_n hx hb dX10_goDay_56 rfl (lv_at hl 5 rfl) ?_
          refine rdV (As := [.int y2_3]) (rest := [.int (x5 - (mfal (x5 / 10).toNatClampNeg))]) ⟨hx, hb, hml, hown, hts⟩ (k_X10_likeBeside l dC dI cI cZ cQ b mday mdoo mdA mdB mfar mmar mtel mgai mfal mtop mstr mgho mfai mpto mwal mahd_2 mahf_2 mcho mbes mbyt mtxt mpos mtka mtok mdig mnum mfau mrdm mrea mlin mlne mthg mord mbor mbsm mans mand manr mali y2_3 r_mday r_mdoo r_mdA r_mdB r_mmar r_mgai r_mfal r_mtop r_mstr r_mgho r_mfai r_mahd_2 r_mahf_2 r_mcho r_mbyt r_mpos r_mrdm r_mlin r_mthg r_mord r_mans (by omega) (by omega) (by omega)) (cwV 1 hts gX10_goDay_X10_likeBeside rfl rfl rfl (by decide +kernel) ⟨Nat.le_of_ble_eq_true rfl, Nat.le_of_ble_eq_true rfl⟩) hP hK hN [0, 1, 2, 3, 4, 5, 6, 7, 8, 9, 10, 11, 12, 13, 14, 15, 16, 17, 18, 19, 20, 21, 22, 23, 24, 25] rfl 0 10 rfl rfl rfl hl.1 rfl (Nat.le_of_ble_eq_true rfl) dX10_goDay_57 ⟨Nat.le_of_ble_eq_true rfl, Nat.le_of_ble_eq_true rfl⟩ (fun r17 h18 => ?_)
          have h18 : (0 ≤ r17.toInt) ∧ (r17.toInt ≤ 6) := h18
          obtain ⟨h18_0, h18_1⟩ := h18
          refine lv_isub hx hb dX10_goDay_60 ?_
          have f19 : ((x5 - (mfal (x5 / 10).toNatClampNeg)) - r17).toInt = ((x5.toInt) - ((mfal (x5 / 10).toNatClampNeg).toInt)) - (r17.toInt) := subC f16 rfl (by omega) (by omega)
          refine lv_topi (fun x20 ex20 => ?_)
          have ix20 : x20.toInt = ((x5.toInt) - ((mfal (x5 / 10).toNatClampNeg).toInt)) - (r17.toInt) := by rw [ex20]; exact f19
          refine lv_istore (lv' := [(4, .int x20), (5, .int x9), (0, .ref (b 39)), (1, .int fr), (2, .int to), (3, .int y2_3)]) hx hb dX10_goDay_61 hl (by decide) rfl (fun ls hl => ?_)
          refine lv_iload hx hb dX10_goDay_63 (lv_at hl 1 rfl) ?_
          refine lv_aload_n hx hb dX10_goDay_65 rfl (lv_at hl 2 rfl) ?_
          refine va_get (D := (dC, dI)) (ci := 10) (v := .ref (b 8)) (C := RX10) (T := TX10) (N := 39) hx hb hts inX10 hown hK hP 0 rfl rfl 8 (by decide) lf29 (fun _ h9 => h9) rfl dX10_goDay_66 ?_
          refine lv_iload hx hb dX10_goDay_69 (lv_at hl 1 rfl) ?_
          refine lv_bipush (v := 10) hx hb dX10_goDay_71 (by decide) ?_
          refine lv_idiv hx hb dX10_goDay_73 (by decide) ?_
          have f21 : (x9 / 10).toInt = (x9.toInt) / (10) := divC rfl (show (10 : Int32).toInt = 10 from rfl) (by omega) (by omega)
          have b22 : vp_in (x9 / 10) 11 := inC f21 (by omega) (by omega)
          refine va_iald hx hb hK hP 5 0 rfl rfl b22 dX10_goDay_74 ?_
          have g23 : 0 ≤ (mfal (x9 / 10).toNatClampNeg).toInt ∧ (mfal (x9 / 10).toNatClampNeg).toInt ≤ 30 := rg_at r_mfal b22
          refine lv_isub hx hb dX10_goDay_75 ?_
          have f24 : (x9 - (mfal (x9 / 10).toNatClampNeg)).toInt = (x9.toInt) - ((mfal (x9 / 10).toNatClampNeg).toInt) := subC rfl rfl (by omega) (by omega)
          refine lv_topi (fun x25 ex25 => ?_)
          have ix25 : x25.toInt = (x9.toInt) - ((mfal (x9 / 10).toNatClampNeg).toInt) := by rw [ex25]; exact f24
          refine lv_istore (lv' := [(5, .int x25), (4, .int x20), (0, .ref (b 39)), (1, .int fr), (2, .int to), (3, .int y2_3)]) hx hb dX10_goDay_76 hl (by decide) rfl (fun ls hl => ?_)
          refine lv_aload_n hx hb dX10_goDay_78 rfl (lv_at hl 2 rfl) ?_
          refine va_get (D := (dC, dI)) (ci := 10) (v := .ref (b 15)) (C := RX10) (T := TX10) (N := 39) hx hb hts inX10 hown hK hP 0 rfl rfl 15 (by decide) lf50 (fun _ h9 => h9) rfl dX10_goDay_79 ?_
          refine lv_iload_n hx hb dX10_goDay_82 rfl (lv_at hl 4 rfl) ?_
          refine lv_iload_n hx hb dX10_goDay_83 rfl (lv_at hl 5 rfl) ?_
          refine lv_iadd hx hb dX10_goDay_84 ?_
          have f26 : (to + y2_3).toInt = (to.toInt) + (y2_3.toInt) := addC rfl rfl (by omega) (by omega)
          refine lv_iload hx hb dX10_goDay_85 (lv_at hl 1 rfl) ?_
          refine lv_if_ge (tgt := 94) hx hb dX10_goDay_87 (by decide) (fun c27 => ?_) (fun c27 => ?_)
          · have dc27 : 0 ≤ x20.toInt := leC (show (0 : Int32).toInt = 0 from rfl) rfl c27
            refine lv_iload hx hb dX10_goDay_94 (lv_at hl 1 rfl) ?_
            have b28 : vp_in (to + y2_3) 240 := inC f26 (by omega) (by omega)
            have g29 : rg 240 (0) (100) (upd mahd_2 (to + y2_3).toNatClampNeg x20) := rg_upd r_mahd_2 rfl (by omega) (by omega)
            refine va_iast hx hb hK hP hD hS 12 0 rfl rfl b28 dX10_goDay_96 (fun H locs hP hD hS => ?_)
            obtain ⟨mahd_u30, emahd_u30⟩ : ∃ f : Nat → Int32, f = upd mahd_2 (to + y2_3).toNatClampNeg x20 := ⟨_, rfl⟩
            have rmahd_u30 : rg 240 (0) (100) mahd_u30 := by rw [emahd_u30]; exact g29
            have hP : va_P (dC, dI) vwCl (wMod cI cZ cQ b mday mdoo mdA mdB mfar mmar mtel mgai mfal mtop mstr mgho mfai mpto mwal mahd_u30 mahf_2 mcho mbes mbyt mtxt mpos mtka mtok mdig mnum mfau mrdm mrea mlin mlne mthg mord mbor mbsm mans mand manr mali) H := by rw [emahd_u30]; exact hP
            have hD : va_D A (wMod cI cZ cQ b mday mdoo mdA mdB mfar mmar mtel mgai mfal mtop mstr mgho mfai mpto mwal mahd_u30 mahf_2 mcho mbes mbyt mtxt mpos mtka mtok mdig mnum mfau mrdm mrea mlin mlne mthg mord mbor mbsm mans mand manr mali) := by rw [emahd_u30]; exact hD
            refine lv_aload_n hx hb dX10_goDay_97 rfl (lv_at hl 2 rfl) ?_
            refine va_get (D := (dC, dI)) (ci := 10) (v := .ref (b 16)) (C := RX10) (T := TX10) (N := 39) hx hb hts inX10 hown hK hP 0 rfl rfl 16 (by decide) lf53 (fun _ h9 => h9) rfl dX10_goDay_98 ?_
            refine lv_iload_n hx hb dX10_goDay_101 rfl (lv_at hl 4 rfl) ?_
            refine lv_iload_n hx hb dX10_goDay_102 rfl (lv_at hl 5 rfl) ?_
            refine lv_iadd hx hb dX10_goDay_103 ?_
            have f31 : (to + y2_3).toInt = (to.toInt) + (y2_3.toInt) := addC rfl rfl (by omega) (by omega)
            refine lv_iload hx hb dX10_goDay_104 (lv_at hl 0 rfl) ?_
            refine lv_if_ge (tgt := 113) hx hb dX10_goDay_106 (by decide) (fun c32 => ?_) (fun c32 => ?_)
            · have dc32 : 0 ≤ x25.toInt := leC (show (0 : Int32).toInt = 0 from rfl) rfl c32
              refine lv_iload hx hb dX10_goDay_113 (lv_at hl 0 rfl) ?_
              have b33 : vp_in (to + y2_3) 240 := inC f31 (by omega) (by omega)
              have g34 : rg 240 (0) (100) (upd mahf_2 (to + y2_3).toNatClampNeg x25) := rg_upd r_mahf_2 rfl (by omega) (by omega)
              refine va_iast hx hb hK hP hD hS 13 0 rfl rfl b33 dX10_goDay_115 (fun H locs hP hD hS => ?_)
              obtain ⟨mahf_u35, emahf_u35⟩ : ∃ f : Nat → Int32, f = upd mahf_2 (to + y2_3).toNatClampNeg x25 := ⟨_, rfl⟩
              have rmahf_u35 : rg 240 (0) (100) mahf_u35 := by rw [emahf_u35]; exact g34
              have hP : va_P (dC, dI) vwCl (wMod cI cZ cQ b mday mdoo mdA mdB mfar mmar mtel mgai mfal mtop mstr mgho mfai mpto mwal mahd_u30 mahf_u35 mcho mbes mbyt mtxt mpos mtka mtok mdig mnum mfau mrdm mrea mlin mlne mthg mord mbor mbsm mans mand manr mali) H := by rw [emahf_u35]; exact hP
              have hD : va_D A (wMod cI cZ cQ b mday mdoo mdA mdB mfar mmar mtel mgai mfal mtop mstr mgho mfai mpto mwal mahd_u30 mahf_u35 mcho mbes mbyt mtxt mpos mtka mtok mdig mnum mfau mrdm mrea mlin mlne mthg mord mbor mbsm mans mand manr mali) := by rw [emahf_u35]; exact hD
              obtain ⟨z36, ez36⟩ : ∃ y : Int32, y = y2_3 + 1 := ⟨_, rfl⟩
              have iz36 : z36.toInt = y2_3.toInt + 1 := by rw [ez36]; exact addC rfl rfl (by omega) (by omega)
              refine lv_iinc (v := z36) (lv' := [(3, .int z36), (5, .int x25), (4, .int x20), (0, .ref (b 39)), (1, .int fr), (2, .int to)]) hx hb dX10_goDay_116 hl (k := 5) rfl (by rw [ez36]; rfl) (by decide) rfl (fun ls hl => ?_)
              refine lv_goto (tgt := 2) hx hb dX10_goDay_119 (by decide) ?_
              exact ih2 z36 mahd_u30 mahf_u35 _ _ _ rmahd_u30 rmahf_u35 (by omega) (by omega) (by omega) hP hD hS (lv_sub hl [3, 4, 5, 0] rfl)
            · have dc32 : x25.toInt < 0 := nleC (show (0 : Int32).toInt = 0 from rfl) rfl c32
              refine lv_iconst (v := 0) hx hb dX10_goDay_109 (by decide) ?_
              refine lv_goto (tgt := 115) hx hb dX10_goDay_110 (by decide) ?_
              have b37 : vp_in (to + y2_3) 240 := inC f31 (by omega) (by omega)
              have g38 : rg 240 (0) (100) (upd mahf_2 (to + y2_3).toNatClampNeg 0) := rg_upd r_mahf_2 (show (0 : Int32).toInt = 0 from rfl) (by omega) (by omega)
              refine va_iast hx hb hK hP hD hS 13 0 rfl rfl b37 dX10_goDay_115 (fun H locs hP hD hS => ?_)
              obtain ⟨mahf_u39, emahf_u39⟩ : ∃ f : Nat → Int32, f = upd mahf_2 (to + y2_3).toNatClampNeg 0 := ⟨_, rfl⟩
              have rmahf_u39 : rg 240 (0) (100) mahf_u39 := by rw [emahf_u39]; exact g38
              have hP : va_P (dC, dI) vwCl (wMod cI cZ cQ b mday mdoo mdA mdB mfar mmar mtel mgai mfal mtop mstr mgho mfai mpto mwal mahd_u30 mahf_u39 mcho mbes mbyt mtxt mpos mtka mtok mdig mnum mfau mrdm mrea mlin mlne mthg mord mbor mbsm mans mand manr mali) H := by rw [emahf_u39]; exact hP
              have hD : va_D A (wMod cI cZ cQ b mday mdoo mdA mdB mfar mmar mtel mgai mfal mtop mstr mgho mfai mpto mwal mahd_u30 mahf_u39 mcho mbes mbyt mtxt mpos mtka mtok mdig mnum mfau mrdm mrea mlin mlne mthg mord mbor mbsm mans mand manr mali) := by rw [emahf_u39]; exact hD
              obtain ⟨z40, ez40⟩ : ∃ y : Int32, y = y2_3 + 1 := ⟨_, rfl⟩
              have iz40 : z40.toInt = y2_3.toInt + 1 := by rw [ez40]; exact addC rfl rfl (by omega) (by omega)
              refine lv_iinc (v := z40) (lv' := [(3, .int z40), (5, .int x25), (4, .int x20), (0, .ref (b 39)), (1, .int fr), (2, .int to)]) hx hb dX10_goDay_116 hl (k := 5) rfl (by rw [ez40]; rfl) (by decide) rfl (fun ls hl => ?_)
              refine lv_goto (tgt := 2) hx hb dX10_goDay_119 (by decide) ?_
              exact ih2 z40 mahd_u30 mahf_u39 _ _ _ rmahd_u30 rmahf_u39 (by omega) (by omega) (by omega) hP hD hS (lv_sub hl [3, 4, 5, 0] rfl)
          · have dc27 : x20.toInt < 0 := nleC (show (0 : Int32).toInt = 0 from rfl) rfl c27
            refine lv_iconst (v := 0) hx hb dX10_goDay_90 (by decide) ?_
            refine lv_goto (tgt := 96) hx hb dX10_goDay_91 (by decide) ?_
            have b41 : vp_in (to + y2_3) 240 := inC f26 (by omega) (by omega)
            have g42 : rg 240 (0) (100) (upd mahd_2 (to + y2_3).toNatClampNeg 0) := rg_upd r_mahd_2 (show (0 : Int32).toInt = 0 from rfl) (by omega) (by omega)
            refine va_iast hx hb hK hP hD hS 12 0 rfl rfl b41 dX10_goDay_96 (fun H locs hP hD hS => ?_)
            obtain ⟨mahd_u43, emahd_u43⟩ : ∃ f : Nat → Int32, f = upd mahd_2 (to + y2_3).toNatClampNeg 0 := ⟨_, rfl⟩
            have rmahd_u43 : rg 240 (0) (100) mahd_u43 := by rw [emahd_u43]; exact g42
            have hP : va_P (dC, dI) vwCl (wMod cI cZ cQ b mday mdoo mdA mdB mfar mmar mtel mgai mfal mtop mstr mgho mfai mpto mwal mahd_u43 mahf_2 mcho mbes mbyt mtxt mpos mtka mtok mdig mnum mfau mrdm mrea mlin mlne mthg mord mbor mbsm mans mand manr mali) H := by rw [emahd_u43]; exact hP
            have hD : va_D A (wMod cI cZ cQ b mday mdoo mdA mdB mfar mmar mtel mgai mfal mtop mstr mgho mfai mpto mwal mahd_u43 mahf_2 mcho mbes mbyt mtxt mpos mtka mtok mdig mnum mfau mrdm mrea mlin mlne mthg mord mbor mbsm mans mand manr mali) := by rw [emahd_u43]; exact hD
            refine lv_aload_n hx hb dX10_goDay_97 rfl (lv_at hl 2 rfl) ?_
            refine va_get (D := (dC, dI)) (ci := 10) (v := .ref (b 16)) (C := RX10) (T := TX10) (N := 39) hx hb hts inX10 hown hK hP 0 rfl rfl 16 (by decide) lf53 (fun _ h9 => h9) rfl dX10_goDay_98 ?_
            refine lv_iload_n hx hb dX10_goDay_101 rfl (lv_at hl 4 rfl) ?_
            refine lv_iload_n hx hb dX10_goDay_102 rfl (lv_at hl 5 rfl) ?_
            refine lv_iadd hx hb dX10_goDay_103 ?_
            have f44 : (to + y2_3).toInt = (to.toInt) + (y2_3.toInt) := addC rfl rfl (by omega) (by omega)
            refine lv_iload hx hb dX10_goDay_104 (lv_at hl 0 rfl) ?_
            refine lv_if_ge (tgt := 113) hx hb dX10_goDay_106 (by decide) (fun c45 => ?_) (fun c45 => ?_)
            · have dc45 : 0 ≤ x25.toInt := leC (show (0 : Int32).toInt = 0 from rfl) rfl c45
              refine lv_iload hx hb dX10_goDay_113 (lv_at hl 0 rfl) ?_
              have b46 : vp_in (to + y2_3) 240 := inC f44 (by omega) (by omega)
              have g47 : rg 240 (0) (100) (upd mahf_2 (to + y2_3).toNatClampNeg x25) := rg_upd r_mahf_2 rfl (by omega) (by omega)
              refine va_iast hx hb hK hP hD hS 13 0 rfl rfl b46 dX10_goDay_115 (fun H locs hP hD hS => ?_)
              obtain ⟨mahf_u48, emahf_u48⟩ : ∃ f : Nat → Int32, f = upd mahf_2 (to + y2_3).toNatClampNeg x25 := ⟨_, rfl⟩
              have rmahf_u48 : rg 240 (0) (100) mahf_u48 := by rw [emahf_u48]; exact g47
              have hP : va_P (dC, dI) vwCl (wMod cI cZ cQ b mday mdoo mdA mdB mfar mmar mtel mgai mfal mtop mstr mgho mfai mpto mwal mahd_u43 mahf_u48 mcho mbes mbyt mtxt mpos mtka mtok mdig mnum mfau mrdm mrea mlin mlne mthg mord mbor mbsm mans mand manr mali) H := by rw [emahf_u48]; exact hP
              have hD : va_D A (wMod cI cZ cQ b mday mdoo mdA mdB mfar mmar mtel mgai mfal mtop mstr mgho mfai mpto mwal mahd_u43 mahf_u48 mcho mbes mbyt mtxt mpos mtka mtok mdig mnum mfau mrdm mrea mlin mlne mthg mord mbor mbsm mans mand manr mali) := by rw [emahf_u48]; exact hD
              obtain ⟨z49, ez49⟩ : ∃ y : Int32, y = y2_3 + 1 := ⟨_, rfl⟩
              have iz49 : z49.toInt = y2_3.toInt + 1 := by rw [ez49]; exact addC rfl rfl (by omega) (by omega)
              refine lv_iinc (v := z49) (lv' := [(3, .int z49), (5, .int x25), (4, .int x20), (0, .ref (b 39)), (1, .int fr), (2, .int to)]) hx hb dX10_goDay_116 hl (k := 5) rfl (by rw [ez49]; rfl) (by decide) rfl (fun ls hl => ?_)
              refine lv_goto (tgt := 2) hx hb dX10_goDay_119 (by decide) ?_
              exact ih2 z49 mahd_u43 mahf_u48 _ _ _ rmahd_u43 rmahf_u48 (by omega) (by omega) (by omega) hP hD hS (lv_sub hl [3, 4, 5, 0] rfl)
            · have dc45 : x25.toInt < 0 := nleC (show (0 : Int32).toInt = 0 from rfl) rfl c45
              refine lv_iconst (v := 0) hx hb dX10_goDay_109 (by decide) ?_
              refine lv_goto (tgt := 115) hx hb dX10_goDay_110 (by decide) ?_
              have b50 : vp_in (to + y2_3) 240 := inC f44 (by omega) (by omega)
              have g51 : rg 240 (0) (100) (upd mahf_2 (to + y2_3).toNatClampNeg 0) := rg_upd r_mahf_2 (show (0 : Int32).toInt = 0 from rfl) (by omega) (by omega)
              refine va_iast hx hb hK hP hD hS 13 0 rfl rfl b50 dX10_goDay_115 (fun H locs hP hD hS => ?_)
              obtain ⟨mahf_u52, emahf_u52⟩ : ∃ f : Nat → Int32, f = upd mahf_2 (to + y2_3).toNatClampNeg 0 := ⟨_, rfl⟩
              have rmahf_u52 : rg 240 (0) (100) mahf_u52 := by rw [emahf_u52]; exact g51
              have hP : va_P (dC, dI) vwCl (wMod cI cZ cQ b mday mdoo mdA mdB mfar mmar mtel mgai mfal mtop mstr mgho mfai mpto mwal mahd_u43 mahf_u52 mcho mbes mbyt mtxt mpos mtka mtok mdig mnum mfau mrdm mrea mlin mlne mthg mord mbor mbsm mans mand manr mali) H := by rw [emahf_u52]; exact hP
              have hD : va_D A (wMod cI cZ cQ b mday mdoo mdA mdB mfar mmar mtel mgai mfal mtop mstr mgho mfai mpto mwal mahd_u43 mahf_u52 mcho mbes mbyt mtxt mpos mtka mtok mdig mnum mfau mrdm mrea mlin mlne mthg mord mbor mbsm mans mand manr mali) := by rw [emahf_u52]; exact hD
              obtain ⟨z53, ez53⟩ : ∃ y : Int32, y = y2_3 + 1 := ⟨_, rfl⟩
              have iz53 : z53.toInt = y2_3.toInt + 1 := by rw [ez53]; exact addC rfl rfl (by omega) (by omega)
              refine lv_iinc (v := z53) (lv' := [(3, .int z53), (5, .int x25), (4, .int x20), (0, .ref (b 39)), (1, .int fr), (2, .int to)]) hx hb dX10_goDay_116 hl (k := 5) rfl (by rw [ez53]; rfl) (by decide) rfl (fun ls hl => ?_)
              refine lv_goto (tgt := 2) hx hb dX10_goDay_119 (by decide) ?_
              exact ih2 z53 mahd_u43 mahf_u52 _ _ _ rmahd_u43 rmahf_u52 (by omega) (by omega) (by omega) hP hD hS (lv_sub hl [3, 4, 5, 0] rfl)
        · have dc12 : (mtop y2_3.toNatClampNeg).toInt = (-1) := eqC rfl (show ((-1) : Int32).toInt = (-1) from rfl) c12
          refine lv_iconst (v := 0) hx hb dX10_goDay_38 (by decide) ?_
          refine lv_goto (tgt := 61) hx hb dX10_goDay_39 (by decide) ?_
          refine lv_istore (lv' := [(4, .int 0), (5, .int x9), (0, .ref (b 39)), (1, .int fr), (2, .int to), (3, .int y2_3)]) hx hb dX10_goDay_61 hl (by decide) rfl (fun ls hl => ?_)
          refine lv_iload hx hb dX10_goDay_63 (lv_at hl 1 rfl) ?_
          refine lv_aload_n hx hb dX10_goDay_65 rfl (lv_at hl 2 rfl) ?_
          refine va_get (D := (dC, dI)) (ci := 10) (v := .ref (b 8)) (C := RX10) (T := TX10) (N := 39) hx hb hts inX10 hown hK hP 0 rfl rfl 8 (by decide) lf29 (fun _ h9 => h9) rfl dX10_goDay_66 ?_
          refine lv_iload hx hb dX10_goDay_69 (lv_at hl 1 rfl) ?_
          refine lv_bipush (v := 10) hx hb dX10_goDay_71 (by decide) ?_
          refine lv_idiv hx hb dX10_goDay_73 (by decide) ?_
          have f54 : (x9 / 10).toInt = (x9.toInt) / (10) := divC rfl (show (10 : Int32).toInt = 10 from rfl) (by omega) (by omega)
          have b55 : vp_in (x9 / 10) 11 := inC f54 (by omega) (by omega)
          refine va_iald hx hb hK hP 5 0 rfl rfl b55 dX10_goDay_74 ?_
          have g56 : 0 ≤ (mfal (x9 / 10).toNatClampNeg).toInt ∧ (mfal (x9 / 10).toNatClampNeg).toInt ≤ 30 := rg_at r_mfal b55
          refine lv_isub hx hb dX10_goDay_75 ?_
          have f57 : (x9 - (mfal (x9 / 10).toNatClampNeg)).toInt = (x9.toInt) - ((mfal (x9 / 10).toNatClampNeg).toInt) := subC rfl rfl (by omega) (by omega)
          refine lv_topi (fun x58 ex58 => ?_)
          have ix58 : x58.toInt = (x9.toInt) - ((mfal (x9 / 10).toNatClampNeg).toInt) := by rw [ex58]; exact f57
          refine lv_istore (lv' := [(5, .int x58), (4, .int 0), (0, .ref (b 39)), (1, .int fr), (2, .int to), (3, .int y2_3)]) hx hb dX10_goDay_76 hl (by decide) rfl (fun ls hl => ?_)
          refine lv_aload_n hx hb dX10_goDay_78 rfl (lv_at hl 2 rfl) ?_
          refine va_get (D := (dC, dI)) (ci := 10) (v := .ref (b 15)) (C := RX10) (T := TX10) (N := 39) hx hb hts inX10 hown hK hP 0 rfl rfl 15 (by decide) lf50 (fun _ h9 => h9) rfl dX10_goDay_79 ?_
          refine lv_iload_n hx hb dX10_goDay_82 rfl (lv_at hl 4 rfl) ?_
          refine lv_iload_n hx hb dX10_goDay_83 rfl (lv_at hl 5 rfl) ?_
          refine lv_iadd hx hb dX10_goDay_84 ?_
          have f59 : (to + y2_3).toInt = (to.toInt) + (y2_3.toInt) := addC rfl rfl (by omega) (by omega)
          refine lv_iload hx hb dX10_goDay_85 (lv_at hl 1 rfl) ?_
          refine lv_if_ge (tgt := 94) hx hb dX10_goDay_87 (by decide) (fun _ => ?_) (fun c9 => absurd (by decide) c9)
          refine lv_iload hx hb dX10_goDay_94 (lv_at hl 1 rfl) ?_
          have b60 : vp_in (to + y2_3) 240 := inC f59 (by omega) (by omega)
          have g61 : rg 240 (0) (100) (upd mahd_2 (to + y2_3).toNatClampNeg 0) := rg_upd r_mahd_2 (show (0 : Int32).toInt = 0 from rfl) (by omega) (by omega)
          refine va_iast hx hb hK hP hD hS 12 0 rfl rfl b60 dX10_goDay_96 (fun H locs hP hD hS => ?_)
          obtain ⟨mahd_u62, emahd_u62⟩ : ∃ f : Nat → Int32, f = upd mahd_2 (to + y2_3).toNatClampNeg 0 := ⟨_, rfl⟩
          have rmahd_u62 : rg 240 (0) (100) mahd_u62 := by rw [emahd_u62]; exact g61
          have hP : va_P (dC, dI) vwCl (wMod cI cZ cQ b mday mdoo mdA mdB mfar mmar mtel mgai mfal mtop mstr mgho mfai mpto mwal mahd_u62 mahf_2 mcho mbes mbyt mtxt mpos mtka mtok mdig mnum mfau mrdm mrea mlin mlne mthg mord mbor mbsm mans mand manr mali) H := by rw [emahd_u62]; exact hP
          have hD : va_D A (wMod cI cZ cQ b mday mdoo mdA mdB mfar mmar mtel mgai mfal mtop mstr mgho mfai mpto mwal mahd_u62 mahf_2 mcho mbes mbyt mtxt mpos mtka mtok mdig mnum mfau mrdm mrea mlin mlne mthg mord mbor mbsm mans mand manr mali) := by rw [emahd_u62]; exact hD
          refine lv_aload_n hx hb dX10_goDay_97 rfl (lv_at hl 2 rfl) ?_
          refine va_get (D := (dC, dI)) (ci := 10) (v := .ref (b 16)) (C := RX10) (T := TX10) (N := 39) hx hb hts inX10 hown hK hP 0 rfl rfl 16 (by decide) lf53 (fun _ h9 => h9) rfl dX10_goDay_98 ?_
          refine lv_iload_n hx hb dX10_goDay_101 rfl (lv_at hl 4 rfl) ?_
          refine lv_iload_n hx hb dX10_goDay_102 rfl (lv_at hl 5 rfl) ?_
          refine lv_iadd hx hb dX10_goDay_103 ?_
          have f63 : (to + y2_3).toInt = (to.toInt) + (y2_3.toInt) := addC rfl rfl (by omega) (by omega)
          refine lv_iload hx hb dX10_goDay_104 (lv_at hl 0 rfl) ?_
          refine lv_if_ge (tgt := 113) hx hb dX10_goDay_106 (by decide) (fun c64 => ?_) (fun c64 => ?_)
          · have dc64 : 0 ≤ x58.toInt := leC (show (0 : Int32).toInt = 0 from rfl) rfl c64
            refine lv_iload hx hb dX10_goDay_113 (lv_at hl 0 rfl) ?_
            have b65 : vp_in (to + y2_3) 240 := inC f63 (by omega) (by omega)
            have g66 : rg 240 (0) (100) (upd mahf_2 (to + y2_3).toNatClampNeg x58) := rg_upd r_mahf_2 rfl (by omega) (by omega)
            refine va_iast hx hb hK hP hD hS 13 0 rfl rfl b65 dX10_goDay_115 (fun H locs hP hD hS => ?_)
            obtain ⟨mahf_u67, emahf_u67⟩ : ∃ f : Nat → Int32, f = upd mahf_2 (to + y2_3).toNatClampNeg x58 := ⟨_, rfl⟩
            have rmahf_u67 : rg 240 (0) (100) mahf_u67 := by rw [emahf_u67]; exact g66
            have hP : va_P (dC, dI) vwCl (wMod cI cZ cQ b mday mdoo mdA mdB mfar mmar mtel mgai mfal mtop mstr mgho mfai mpto mwal mahd_u62 mahf_u67 mcho mbes mbyt mtxt mpos mtka mtok mdig mnum mfau mrdm mrea mlin mlne mthg mord mbor mbsm mans mand manr mali) H := by rw [emahf_u67]; exact hP
            have hD : va_D A (wMod cI cZ cQ b mday mdoo mdA mdB mfar mmar mtel mgai mfal mtop mstr mgho mfai mpto mwal mahd_u62 mahf_u67 mcho mbes mbyt mtxt mpos mtka mtok mdig mnum mfau mrdm mrea mlin mlne mthg mord mbor mbsm mans mand manr mali) := by rw [emahf_u67]; exact hD
            obtain ⟨z68, ez68⟩ : ∃ y : Int32, y = y2_3 + 1 := ⟨_, rfl⟩
            have iz68 : z68.toInt = y2_3.toInt + 1 := by rw [ez68]; exact addC rfl rfl (by omega) (by omega)
            refine lv_iinc (v := z68) (lv' := [(3, .int z68), (5, .int x58), (4, .int 0), (0, .ref (b 39)), (1, .int fr), (2, .int to)]) hx hb dX10_goDay_116 hl (k := 5) rfl (by rw [ez68]; rfl) (by decide) rfl (fun ls hl => ?_)
            refine lv_goto (tgt := 2) hx hb dX10_goDay_119 (by decide) ?_
            exact ih2 z68 mahd_u62 mahf_u67 _ _ _ rmahd_u62 rmahf_u67 (by omega) (by omega) (by omega) hP hD hS (lv_sub hl [3, 4, 5, 0] rfl)
          · have dc64 : x58.toInt < 0 := nleC (show (0 : Int32).toInt = 0 from rfl) rfl c64
            refine lv_iconst (v := 0) hx hb dX10_goDay_109 (by decide) ?_
            refine lv_goto (tgt := 115) hx hb dX10_goDay_110 (by decide) ?_
            have b69 : vp_in (to + y2_3) 240 := inC f63 (by omega) (by omega)
            have g70 : rg 240 (0) (100) (upd mahf_2 (to + y2_3).toNatClampNeg 0) := rg_upd r_mahf_2 (show (0 : Int32).toInt = 0 from rfl) (by omega) (by omega)
            refine va_iast hx hb hK hP hD hS 13 0 rfl rfl b69 dX10_goDay_115 (fun H locs hP hD hS => ?_)
            obtain ⟨mahf_u71, emahf_u71⟩ : ∃ f : Nat → Int32, f = upd mahf_2 (to + y2_3).toNatClampNeg 0 := ⟨_, rfl⟩
            have rmahf_u71 : rg 240 (0) (100) mahf_u71 := by rw [emahf_u71]; exact g70
            have hP : va_P (dC, dI) vwCl (wMod cI cZ cQ b mday mdoo mdA mdB mfar mmar mtel mgai mfal mtop mstr mgho mfai mpto mwal mahd_u62 mahf_u71 mcho mbes mbyt mtxt mpos mtka mtok mdig mnum mfau mrdm mrea mlin mlne mthg mord mbor mbsm mans mand manr mali) H := by rw [emahf_u71]; exact hP
            have hD : va_D A (wMod cI cZ cQ b mday mdoo mdA mdB mfar mmar mtel mgai mfal mtop mstr mgho mfai mpto mwal mahd_u62 mahf_u71 mcho mbes mbyt mtxt mpos mtka mtok mdig mnum mfau mrdm mrea mlin mlne mthg mord mbor mbsm mans mand manr mali) := by rw [emahf_u71]; exact hD
            obtain ⟨z72, ez72⟩ : ∃ y : Int32, y = y2_3 + 1 := ⟨_, rfl⟩
            have iz72 : z72.toInt = y2_3.toInt + 1 := by rw [ez72]; exact addC rfl rfl (by omega) (by omega)
            refine lv_iinc (v := z72) (lv' := [(3, .int z72), (5, .int x58), (4, .int 0), (0, .ref (b 39)), (1, .int fr), (2, .int to)]) hx hb dX10_goDay_116 hl (k := 5) rfl (by rw [ez72]; rfl) (by decide) rfl (fun ls hl => ?_)
            refine lv_goto (tgt := 2) hx hb dX10_goDay_119 (by decide) ?_
            exact ih2 z72 mahd_u62 mahf_u71 _ _ _ rmahd_u62 rmahf_u71 (by omega) (by omega) (by omega) hP hD hS (lv_sub hl [3, 4, 5, 0] rfl)
  have kc73 : (0 : Int32).toInt = 0 := rfl
  exact L2 _ 0 mahd mahf _ _ _ r_mahd r_mahf (by omega) (by omega) (Nat.lt_succ_self _) hP hD hS (lv_sub hl [1, 2, 3, 0] rfl)
set_option maxHeartbeats 4000000 in
set_option maxRecDepth 100000 in
theorem k_X10_lookAhead (l : Launch) (dC : Nat → ClassId) (dI : Nat → Nat → Nat) (cI cZ cQ : ClassId) (b : Nat → Nat) (mday : Int32) (mdoo : Int32) (mdA : Nat → Int32) (mdB : Nat → Int32) (mfar : Nat → Int32) (mmar : Nat → Int32) (mtel : Int32) (mgai : Int32) (mfal : Nat → Int32) (mtop : Nat → Int32) (mstr : Nat → Int32) (mgho : Nat → Int32) (mfai : Nat → Int32) (mpto : Nat → Int32) (mwal : Nat → Int32) (mahd : Nat → Int32) (mahf : Nat → Int32) (mcho : Nat → Int32) (mbes : Nat → Int32) (mbyt : Int32) (mtxt : Nat → Int32) (mpos : Int32) (mtka : Int32) (mtok : Int64) (mdig : Int32) (mnum : Int32) (mfau : Int32) (mrdm : Int32) (mrea : Nat → Int32) (mlin : Int32) (mlne : Nat → Int32) (mthg : Nat → Int32) (mord : Nat → Int32) (mbor : Nat → Int32) (mbsm : Int32) (mans : Nat → Int32) (mand : Nat → Int32) (manr : Nat → Int32) (mali : Nat → Int32) (sz : Nat) (r_mday : 0 ≤ mday.toInt ∧ mday.toInt ≤ 400) (r_mdoo : 0 ≤ mdoo.toInt ∧ mdoo.toInt ≤ 14) (r_mdA : rg 14 (0) (7) mdA) (r_mdB : rg 14 (0) (7) mdB) (r_mmar : rg 24 (0) (255) mmar) (r_mgai : 0 ≤ mgai.toInt ∧ mgai.toInt ≤ 100) (r_mfal : rg 11 (0) (30) mfal) (r_mtop : rg 48 (-1) (23) mtop) (r_mstr : rg 48 (0) (100) mstr) (r_mgho : rg 48 (-1) (23) mgho) (r_mfai : rg 48 (0) (100) mfai) (r_mahd : rg 240 (0) (100) mahd) (r_mahf : rg 240 (0) (100) mahf) (r_mcho : rg 5 (-1) (9) mcho) (r_mbyt : 0 ≤ mbyt.toInt ∧ mbyt.toInt ≤ 160) (r_mpos : 0 ≤ mpos.toInt ∧ mpos.toInt ≤ 160) (r_mrdm : 0 ≤ mrdm.toInt ∧ mrdm.toInt ≤ 10) (r_mlin : 0 ≤ mlin.toInt ∧ mlin.toInt ≤ 10) (r_mthg : rg 8 (0) (31) mthg) (r_mord : rg 8 (-1) (8) mord) (r_mans : rg 4 (0) (12) mans) : KV l yX10_lookAhead wsX10_lookAhead { frames := 0, cells := 0, slots := 0, locals := 0 } (dC, dI) (TY cI cZ cQ) (wMod cI cZ cQ b mday mdoo mdA mdB mfar mmar mtel mgai mfal mtop mstr mgho mfai mpto mwal mahd mahf mcho mbes mbyt mtxt mpos mtka mtok mdig mnum mfau mrdm mrea mlin mlne mthg mord mbor mbsm mans mand manr mali) [.ref (b 39)] sz 0 0 (fun (u : US) => (rg 240 (0) (100) (u.1 0)) ∧ (rg 240 (0) (100) (u.1 1))) (fun u : US => (wMod cI cZ cQ b mday mdoo mdA mdB mfar mmar mtel mgai mfal mtop mstr mgho mfai mpto mwal (u.1 0) (u.1 1) mcho mbes mbyt mtxt mpos mtka mtok mdig mnum mfau mrdm mrea mlin mlne mthg mord mbor mbsm mans mand manr mali)) := by
  refine Met.ofW (cc := cX10_lookAhead) (maxL := 2) (ret := none) (by decide) rfl ?_
  intro p e s m args below meth c s₁ B hml hv
  obtain ⟨rfl, hsz, hP, hK, hD0, hN⟩ := hv
  have hx := B.exec
  have hb := B.bytes
  have hr := B.returns
  have hts := atoms_spec (ws := wsX10_lookAhead) B.pre
  have hown : s.vm.findClass RX10 = some m.cls := findClass_of_methodNamed B.named
  have hlocks := B.notSynchronized
  have lf50 := hts (.fieldLink RX10 50 "PalaceOfRoomsModel" "ahead" "[I") (by decide +kernel)
  have inX10 : ∀ w ∈ wsX100, w ∈ wsX10_lookAhead := by decide +kernel
  have lf32 := hts (.fieldLink RX10 32 "PalaceOfRoomsModel" "top" "[I") (by decide +kernel)
  have lf35 := hts (.fieldLink RX10 35 "PalaceOfRoomsModel" "strength" "[I") (by decide +kernel)
  have lf53 := hts (.fieldLink RX10 53 "PalaceOfRoomsModel" "aheadFaint" "[I") (by decide +kernel)
  have lf38 := hts (.fieldLink RX10 38 "PalaceOfRoomsModel" "ghost" "[I") (by decide +kernel)
  have lf41 := hts (.fieldLink RX10 41 "PalaceOfRoomsModel" "faint" "[I") (by decide +kernel)
  subst hsz
  have hD := hD0.self (sz := s.heap.size)
  generalize hAe : va_A (wMod cI cZ cQ b mday mdoo mdA mdB mfar mmar mtel mgai mfal mtop mstr mgho mfai mpto mwal mahd mahf mcho mbes mbyt mtxt mpos mtka mtok mdig mnum mfau mrdm mrea mlin mlne mthg mord mbor mbsm mans mand manr mali) s.heap.size = A at hD ⊢
  have hA : ∀ q : Nat, s.heap.size ≤ q → A q := fun q h => by rw [← hAe]; exact Or.inr h
  have hS : va_S A s.heap s.heap [] := va_S.rf
  have hl := lv_entry ([.ref (b 39)]) (n := 2) (Nat.le_of_ble_eq_true rfl)
  rw [lg_entry_eq]
  generalize (lg_sl ([.ref (b 39)]) ++ List.replicate (2 - (lg_sl ([.ref (b 39)])).length) Slot.unset).toArray = ls at hl ⊢
  have hl : lv_has ls 2 [(0, .ref (b 39))] := hl
  refine lv_iconst (v := 0) hx hb dX10_lookAhead_0 (by decide) ?_
  refine lv_istore_n (lv' := [(1, .int 0), (0, .ref (b 39))]) hx hb dX10_lookAhead_1 rfl hl (by decide) rfl (fun ls hl => ?_)
  have L2 : ∀ (nn : Nat) (y2_1 : Int32) (mahd_2 : Nat → Int32) (mahf_2 : Nat → Int32) (H : Heap) (locs : List Loc) (ls : Array Slot), (rg 240 (0) (100) mahd_2) → (rg 240 (0) (100) mahf_2) → (0 ≤ (y2_1.toInt)) → ((y2_1.toInt) ≤ 48) → (48 - (y2_1.toInt)).toNat < nn → va_P (dC, dI) vwCl (wMod cI cZ cQ b mday mdoo mdA mdB mfar mmar mtel mgai mfal mtop mstr mgho mfai mpto mwal mahd_2 mahf_2 mcho mbes mbyt mtxt mpos mtka mtok mdig mnum mfau mrdm mrea mlin mlne mthg mord mbor mbsm mans mand manr mali) H → va_D A (wMod cI cZ cQ b mday mdoo mdA mdB mfar mmar mtel mgai mfal mtop mstr mgho mfai mpto mwal mahd_2 mahf_2 mcho mbes mbyt mtxt mpos mtka mtok mdig mnum mfau mrdm mrea mlin mlne mthg mord mbor mbsm mans mand manr mali) → va_S A s.heap H locs → lv_has ls 2 [(0, .ref (b 39)), (1, .int y2_1)] → W p l e (headSpec wsX10_lookAhead { frames := 0, cells := 0, slots := 0, locals := 0 }).room s m ([.ref (b 39)] : List Value).toArray below meth c H locs 0 0 (MQ below (va_Qv (fun (u : US) => (rg 240 (0) (100) (u.1 0)) ∧ (rg 240 (0) (100) (u.1 1))) (Bw (dC, dI) A (fun u : US => (wMod cI cZ cQ b mday mdoo mdA mdB mfar mmar mtel mgai mfal mtop mstr mgho mfai mpto mwal (u.1 0) (u.1 1) mcho mbes mbyt mtxt mpos mtka mtok mdig mnum mfau mrdm mrea mlin mlne mthg mord mbor mbsm mans mand manr mali))) A) ([.ref (b 39)] : List Value).toArray s 0 0 A) (F0 m 2 ls []) := by
    intro nn
    induction nn with
    | zero =>
      intro y2_1 mahd_2 mahf_2 H locs ls r_mahd_2 r_mahf_2 i2_0 i2_1 hm
      exact absurd hm (Nat.not_lt_zero _)
    | succ nn ih2 =>
      intro y2_1 mahd_2 mahf_2 H locs ls r_mahd_2 r_mahf_2 i2_0 i2_1 hm hP hD hS hl
      refine lv_iload_n hx hb dX10_lookAhead_2 rfl (lv_at hl 1 rfl) ?_
      refine lv_bipush (v := 48) hx hb dX10_lookAhead_3 (by decide) ?_
      refine lv_icmp_ge (tgt := 66) hx hb dX10_lookAhead_5 (by decide) (fun c1 => ?_) (fun c1 => ?_)
      · have dc1 : 48 ≤ y2_1.toInt := leC (show (48 : Int32).toInt = 48 from rfl) rfl c1
        exact W.vret hx hb hr (fun tq ht hW => ⟨⟨(uS [mahd_2, mahf_2] 0 (fun _ => 0)), rfl, ⟨r_mahd_2, r_mahf_2⟩, by rw [ht]; exact hP, hD⟩, hS.F ht⟩) hS.2.2 dX10_lookAhead_66
      · have dc1 : y2_1.toInt < 48 := nleC (show (48 : Int32).toInt = 48 from rfl) rfl c1
        refine lv_aload_n hx hb dX10_lookAhead_8 rfl (lv_at hl 0 rfl) ?_
        refine va_get (D := (dC, dI)) (ci := 10) (v := .ref (b 15)) (C := RX10) (T := TX10) (N := 39) hx hb hts inX10 hown hK hP 0 rfl rfl 15 (by decide) lf50 (fun _ h9 => h9) rfl dX10_lookAhead_9 ?_
        refine lv_iload_n hx hb dX10_lookAhead_12 rfl (lv_at hl 1 rfl) ?_
        refine lv_aload_n hx hb dX10_lookAhead_13 rfl (lv_at hl 0 rfl) ?_
        refine va_get (D := (dC, dI)) (ci := 10) (v := .ref (b 9)) (C := RX10) (T := TX10) (N := 39) hx hb hts inX10 hown hK hP 0 rfl rfl 9 (by decide) lf32 (fun _ h9 => h9) rfl dX10_lookAhead_14 ?_
        refine lv_iload_n hx hb dX10_lookAhead_17 rfl (lv_at hl 1 rfl) ?_
        have b2 : vp_in y2_1 48 := inC rfl (by omega) (by omega)
        refine va_iald hx hb hK hP 6 0 rfl rfl b2 dX10_lookAhead_18 ?_
        have g3 : -1 ≤ (mtop y2_1.toNatClampNeg).toInt ∧ (mtop y2_1.toNatClampNeg).toInt ≤ 23 := rg_at r_mtop b2
        refine lv_iconst (v := (-1)) hx hb dX10_lookAhead_19 (by decide) ?_
        refine lv_icmp_ne (tgt := 27) hx hb dX10_lookAhead_20 (by decide) (fun c4 => ?_) (fun c4 => ?_)
        · have dc4 : (mtop y2_1.toNatClampNeg).toInt ≠ (-1) := neC rfl (show ((-1) : Int32).toInt = (-1) from rfl) c4
          refine lv_aload_n hx hb dX10_lookAhead_27 rfl (lv_at hl 0 rfl) ?_
          refine va_get (D := (dC, dI)) (ci := 10) (v := .ref (b 10)) (C := RX10) (T := TX10) (N := 39) hx hb hts inX10 hown hK hP 0 rfl rfl 10 (by decide) lf35 (fun _ h9 => h9) rfl dX10_lookAhead_28 ?_
          refine lv_iload_n hx hb dX10_lookAhead_31 rfl (lv_at hl 1 rfl) ?_
          have b5 : vp_in y2_1 48 := inC rfl (by omega) (by omega)
          refine va_iald hx hb hK hP 7 0 rfl rfl b5 dX10_lookAhead_32 ?_
          have g6 : 0 ≤ (mstr y2_1.toNatClampNeg).toInt ∧ (mstr y2_1.toNatClampNeg).toInt ≤ 100 := rg_at r_mstr b5
          refine lv_topi (fun x7 ex7 => ?_)
          have ix7 : x7.toInt = (mstr y2_1.toNatClampNeg).toInt := by rw [ex7]
          have b8 : vp_in y2_1 240 := inC rfl (by omega) (by omega)
          have g9 : rg 240 (0) (100) (upd mahd_2 y2_1.toNatClampNeg x7) := rg_upd r_mahd_2 rfl (by omega) (by omega)
          refine va_iast hx hb hK hP hD hS 12 0 rfl rfl b8 dX10_lookAhead_33 (fun H locs hP hD hS => ?_)
          obtain ⟨mahd_u10, emahd_u10⟩ : ∃ f : Nat → Int32, f = upd mahd_2 y2_1.toNatClampNeg x7 := ⟨_, rfl⟩
          have rmahd_u10 : rg 240 (0) (100) mahd_u10 := by rw [emahd_u10]; exact g9
          have hP : va_P (dC, dI) vwCl (wMod cI cZ cQ b mday mdoo mdA mdB mfar mmar mtel mgai mfal mtop mstr mgho mfai mpto mwal mahd_u10 mahf_2 mcho mbes mbyt mtxt mpos mtka mtok mdig mnum mfau mrdm mrea mlin mlne mthg mord mbor mbsm mans mand manr mali) H := by rw [emahd_u10]; exact hP
          have hD : va_D A (wMod cI cZ cQ b mday mdoo mdA mdB mfar mmar mtel mgai mfal mtop mstr mgho mfai mpto mwal mahd_u10 mahf_2 mcho mbes mbyt mtxt mpos mtka mtok mdig mnum mfau mrdm mrea mlin mlne mthg mord mbor mbsm mans mand manr mali) := by rw [emahd_u10]; exact hD
          refine lv_aload_n hx hb dX10_lookAhead_34 rfl (lv_at hl 0 rfl) ?_
          refine va_get (D := (dC, dI)) (ci := 10) (v := .ref (b 16)) (C := RX10) (T := TX10) (N := 39) hx hb hts inX10 hown hK hP 0 rfl rfl 16 (by decide) lf53 (fun _ h9 => h9) rfl dX10_lookAhead_35 ?_
          refine lv_iload_n hx hb dX10_lookAhead_38 rfl (lv_at hl 1 rfl) ?_
          refine lv_aload_n hx hb dX10_lookAhead_39 rfl (lv_at hl 0 rfl) ?_
          refine va_get (D := (dC, dI)) (ci := 10) (v := .ref (b 11)) (C := RX10) (T := TX10) (N := 39) hx hb hts inX10 hown hK hP 0 rfl rfl 11 (by decide) lf38 (fun _ h9 => h9) rfl dX10_lookAhead_40 ?_
          refine lv_iload_n hx hb dX10_lookAhead_43 rfl (lv_at hl 1 rfl) ?_
          have b11 : vp_in y2_1 48 := inC rfl (by omega) (by omega)
          refine va_iald hx hb hK hP 8 0 rfl rfl b11 dX10_lookAhead_44 ?_
          have g12 : -1 ≤ (mgho y2_1.toNatClampNeg).toInt ∧ (mgho y2_1.toNatClampNeg).toInt ≤ 23 := rg_at r_mgho b11
          refine lv_iconst (v := (-1)) hx hb dX10_lookAhead_45 (by decide) ?_
          refine lv_icmp_ne (tgt := 53) hx hb dX10_lookAhead_46 (by decide) (fun c13 => ?_) (fun c13 => ?_)
          · have dc13 : (mgho y2_1.toNatClampNeg).toInt ≠ (-1) := neC rfl (show ((-1) : Int32).toInt = (-1) from rfl) c13
            refine lv_aload_n hx hb dX10_lookAhead_53 rfl (lv_at hl 0 rfl) ?_
            refine va_get (D := (dC, dI)) (ci := 10) (v := .ref (b 12)) (C := RX10) (T := TX10) (N := 39) hx hb hts inX10 hown hK hP 0 rfl rfl 12 (by decide) lf41 (fun _ h9 => h9) rfl dX10_lookAhead_54 ?_
            refine lv_iload_n hx hb dX10_lookAhead_57 rfl (lv_at hl 1 rfl) ?_
            have b14 : vp_in y2_1 48 := inC rfl (by omega) (by omega)
            refine va_iald hx hb hK hP 9 0 rfl rfl b14 dX10_lookAhead_58 ?_
            have g15 : 0 ≤ (mfai y2_1.toNatClampNeg).toInt ∧ (mfai y2_1.toNatClampNeg).toInt ≤ 100 := rg_at r_mfai b14
            refine lv_topi (fun x16 ex16 => ?_)
            have ix16 : x16.toInt = (mfai y2_1.toNatClampNeg).toInt := by rw [ex16]
            have b17 : vp_in y2_1 240 := inC rfl (by omega) (by omega)
            have g18 : rg 240 (0) (100) (upd mahf_2 y2_1.toNatClampNeg x16) := rg_upd r_mahf_2 rfl (by omega) (by omega)
            refine va_iast hx hb hK hP hD hS 13 0 rfl rfl b17 dX10_lookAhead_59 (fun H locs hP hD hS => ?_)
            obtain ⟨mahf_u19, emahf_u19⟩ : ∃ f : Nat → Int32, f = upd mahf_2 y2_1.toNatClampNeg x16 := ⟨_, rfl⟩
            have rmahf_u19 : rg 240 (0) (100) mahf_u19 := by rw [emahf_u19]; exact g18
            have hP : va_P (dC, dI) vwCl (wMod cI cZ cQ b mday mdoo mdA mdB mfar mmar mtel mgai mfal mtop mstr mgho mfai mpto mwal mahd_u10 mahf_u19 mcho mbes mbyt mtxt mpos mtka mtok mdig mnum mfau mrdm mrea mlin mlne mthg mord mbor mbsm mans mand manr mali) H := by rw [emahf_u19]; exact hP
            have hD : va_D A (wMod cI cZ cQ b mday mdoo mdA mdB mfar mmar mtel mgai mfal mtop mstr mgho mfai mpto mwal mahd_u10 mahf_u19 mcho mbes mbyt mtxt mpos mtka mtok mdig mnum mfau mrdm mrea mlin mlne mthg mord mbor mbsm mans mand manr mali) := by rw [emahf_u19]; exact hD
            obtain ⟨z20, ez20⟩ : ∃ y : Int32, y = y2_1 + 1 := ⟨_, rfl⟩
            have iz20 : z20.toInt = y2_1.toInt + 1 := by rw [ez20]; exact addC rfl rfl (by omega) (by omega)
            refine lv_iinc (v := z20) (lv' := [(1, .int z20), (0, .ref (b 39))]) hx hb dX10_lookAhead_60 hl (k := 1) rfl (by rw [ez20]; rfl) (by decide) rfl (fun ls hl => ?_)
            refine lv_goto (tgt := 2) hx hb dX10_lookAhead_63 (by decide) ?_
            exact ih2 z20 mahd_u10 mahf_u19 _ _ _ rmahd_u10 rmahf_u19 (by omega) (by omega) (by omega) hP hD hS (lv_sub hl [1, 0] rfl)
          · have dc13 : (mgho y2_1.toNatClampNeg).toInt = (-1) := eqC rfl (show ((-1) : Int32).toInt = (-1) from rfl) c13
            refine lv_iconst (v := 0) hx hb dX10_lookAhead_49 (by decide) ?_
            refine lv_goto (tgt := 59) hx hb dX10_lookAhead_50 (by decide) ?_
            have b21 : vp_in y2_1 240 := inC rfl (by omega) (by omega)
            have g22 : rg 240 (0) (100) (upd mahf_2 y2_1.toNatClampNeg 0) := rg_upd r_mahf_2 (show (0 : Int32).toInt = 0 from rfl) (by omega) (by omega)
            refine va_iast hx hb hK hP hD hS 13 0 rfl rfl b21 dX10_lookAhead_59 (fun H locs hP hD hS => ?_)
            obtain ⟨mahf_u23, emahf_u23⟩ : ∃ f : Nat → Int32, f = upd mahf_2 y2_1.toNatClampNeg 0 := ⟨_, rfl⟩
            have rmahf_u23 : rg 240 (0) (100) mahf_u23 := by rw [emahf_u23]; exact g22
            have hP : va_P (dC, dI) vwCl (wMod cI cZ cQ b mday mdoo mdA mdB mfar mmar mtel mgai mfal mtop mstr mgho mfai mpto mwal mahd_u10 mahf_u23 mcho mbes mbyt mtxt mpos mtka mtok mdig mnum mfau mrdm mrea mlin mlne mthg mord mbor mbsm mans mand manr mali) H := by rw [emahf_u23]; exact hP
            have hD : va_D A (wMod cI cZ cQ b mday mdoo mdA mdB mfar mmar mtel mgai mfal mtop mstr mgho mfai mpto mwal mahd_u10 mahf_u23 mcho mbes mbyt mtxt mpos mtka mtok mdig mnum mfau mrdm mrea mlin mlne mthg mord mbor mbsm mans mand manr mali) := by rw [emahf_u23]; exact hD
            obtain ⟨z24, ez24⟩ : ∃ y : Int32, y = y2_1 + 1 := ⟨_, rfl⟩
            have iz24 : z24.toInt = y2_1.toInt + 1 := by rw [ez24]; exact addC rfl rfl (by omega) (by omega)
            refine lv_iinc (v := z24) (lv' := [(1, .int z24), (0, .ref (b 39))]) hx hb dX10_lookAhead_60 hl (k := 1) rfl (by rw [ez24]; rfl) (by decide) rfl (fun ls hl => ?_)
            refine lv_goto (tgt := 2) hx hb dX10_lookAhead_63 (by decide) ?_
            exact ih2 z24 mahd_u10 mahf_u23 _ _ _ rmahd_u10 rmahf_u23 (by omega) (by omega) (by omega) hP hD hS (lv_sub hl [1, 0] rfl)
        · have dc4 : (mtop y2_1.toNatClampNeg).toInt = (-1) := eqC rfl (show ((-1) : Int32).toInt = (-1) from rfl) c4
          refine lv_iconst (v := 0) hx hb dX10_lookAhead_23 (by decide) ?_
          refine lv_goto (tgt := 33) hx hb dX10_lookAhead_24 (by decide) ?_
          have b25 : vp_in y2_1 240 := inC rfl (by omega) (by omega)
          have g26 : rg 240 (0) (100) (upd mahd_2 y2_1.toNatClampNeg 0) := rg_upd r_mahd_2 (show (0 : Int32).toInt = 0 from rfl) (by omega) (by omega)
          refine va_iast hx hb hK hP hD hS 12 0 rfl rfl b25 dX10_lookAhead_33 (fun H locs hP hD hS => ?_)
          obtain ⟨mahd_u27, emahd_u27⟩ : ∃ f : Nat → Int32, f = upd mahd_2 y2_1.toNatClampNeg 0 := ⟨_, rfl⟩
          have rmahd_u27 : rg 240 (0) (100) mahd_u27 := by rw [emahd_u27]; exact g26
          have hP : va_P (dC, dI) vwCl (wMod cI cZ cQ b mday mdoo mdA mdB mfar mmar mtel mgai mfal mtop mstr mgho mfai mpto mwal mahd_u27 mahf_2 mcho mbes mbyt mtxt mpos mtka mtok mdig mnum mfau mrdm mrea mlin mlne mthg mord mbor mbsm mans mand manr mali) H := by rw [emahd_u27]; exact hP
          have hD : va_D A (wMod cI cZ cQ b mday mdoo mdA mdB mfar mmar mtel mgai mfal mtop mstr mgho mfai mpto mwal mahd_u27 mahf_2 mcho mbes mbyt mtxt mpos mtka mtok mdig mnum mfau mrdm mrea mlin mlne mthg mord mbor mbsm mans mand manr mali) := by rw [emahd_u27]; exact hD
          refine lv_aload_n hx hb dX10_lookAhead_34 rfl (lv_at hl 0 rfl) ?_
          refine va_get (D := (dC, dI)) (ci := 10) (v := .ref (b 16)) (C := RX10) (T := TX10) (N := 39) hx hb hts inX10 hown hK hP 0 rfl rfl 16 (by decide) lf53 (fun _ h9 => h9) rfl dX10_lookAhead_35 ?_
          refine lv_iload_n hx hb dX10_lookAhead_38 rfl (lv_at hl 1 rfl) ?_
          refine lv_aload_n hx hb dX10_lookAhead_39 rfl (lv_at hl 0 rfl) ?_
          refine va_get (D := (dC, dI)) (ci := 10) (v := .ref (b 11)) (C := RX10) (T := TX10) (N := 39) hx hb hts inX10 hown hK hP 0 rfl rfl 11 (by decide) lf38 (fun _ h9 => h9) rfl dX10_lookAhead_40 ?_
          refine lv_iload_n hx hb dX10_lookAhead_43 rfl (lv_at hl 1 rfl) ?_
          have b28 : vp_in y2_1 48 := inC rfl (by omega) (by omega)
          refine va_iald hx hb hK hP 8 0 rfl rfl b28 dX10_lookAhead_44 ?_
          have g29 : -1 ≤ (mgho y2_1.toNatClampNeg).toInt ∧ (mgho y2_1.toNatClampNeg).toInt ≤ 23 := rg_at r_mgho b28
          refine lv_iconst (v := (-1)) hx hb dX10_lookAhead_45 (by decide) ?_
          refine lv_icmp_ne (tgt := 53) hx hb dX10_lookAhead_46 (by decide) (fun c30 => ?_) (fun c30 => ?_)
          · have dc30 : (mgho y2_1.toNatClampNeg).toInt ≠ (-1) := neC rfl (show ((-1) : Int32).toInt = (-1) from rfl) c30
            refine lv_aload_n hx hb dX10_lookAhead_53 rfl (lv_at hl 0 rfl) ?_
            refine va_get (D := (dC, dI)) (ci := 10) (v := .ref (b 12)) (C := RX10) (T := TX10) (N := 39) hx hb hts inX10 hown hK hP 0 rfl rfl 12 (by decide) lf41 (fun _ h9 => h9) rfl dX10_lookAhead_54 ?_
            refine lv_iload_n hx hb dX10_lookAhead_57 rfl (lv_at hl 1 rfl) ?_
            have b31 : vp_in y2_1 48 := inC rfl (by omega) (by omega)
            refine va_iald hx hb hK hP 9 0 rfl rfl b31 dX10_lookAhead_58 ?_
            have g32 : 0 ≤ (mfai y2_1.toNatClampNeg).toInt ∧ (mfai y2_1.toNatClampNeg).toInt ≤ 100 := rg_at r_mfai b31
            refine lv_topi (fun x33 ex33 => ?_)
            have ix33 : x33.toInt = (mfai y2_1.toNatClampNeg).toInt := by rw [ex33]
            have b34 : vp_in y2_1 240 := inC rfl (by omega) (by omega)
            have g35 : rg 240 (0) (100) (upd mahf_2 y2_1.toNatClampNeg x33) := rg_upd r_mahf_2 rfl (by omega) (by omega)
            refine va_iast hx hb hK hP hD hS 13 0 rfl rfl b34 dX10_lookAhead_59 (fun H locs hP hD hS => ?_)
            obtain ⟨mahf_u36, emahf_u36⟩ : ∃ f : Nat → Int32, f = upd mahf_2 y2_1.toNatClampNeg x33 := ⟨_, rfl⟩
            have rmahf_u36 : rg 240 (0) (100) mahf_u36 := by rw [emahf_u36]; exact g35
            have hP : va_P (dC, dI) vwCl (wMod cI cZ cQ b mday mdoo mdA mdB mfar mmar mtel mgai mfal mtop mstr mgho mfai mpto mwal mahd_u27 mahf_u36 mcho mbes mbyt mtxt mpos mtka mtok mdig mnum mfau mrdm mrea mlin mlne mthg mord mbor mbsm mans mand manr mali) H := by rw [emahf_u36]; exact hP
            have hD : va_D A (wMod cI cZ cQ b mday mdoo mdA mdB mfar mmar mtel mgai mfal mtop mstr mgho mfai mpto mwal mahd_u27 mahf_u36 mcho mbes mbyt mtxt mpos mtka mtok mdig mnum mfau mrdm mrea mlin mlne mthg mord mbor mbsm mans mand manr mali) := by rw [emahf_u36]; exact hD
            obtain ⟨z37, ez37⟩ : ∃ y : Int32, y = y2_1 + 1 := ⟨_, rfl⟩
            have iz37 : z37.toInt = y2_1.toInt + 1 := by rw [ez37]; exact addC rfl rfl (by omega) (by omega)
            refine lv_iinc (v := z37) (lv' := [(1, .int z37), (0, .ref (b 39))]) hx hb dX10_lookAhead_60 hl (k := 1) rfl (by rw [ez37]; rfl) (by decide) rfl (fun ls hl => ?_)
            refine lv_goto (tgt := 2) hx hb dX10_lookAhead_63 (by decide) ?_
            exact ih2 z37 mahd_u27 mahf_u36 _ _ _ rmahd_u27 rmahf_u36 (by omega) (by omega) (by omega) hP hD hS (lv_sub hl [1, 0] rfl)
          · have dc30 : (mgho y2_1.toNatClampNeg).toInt = (-1) := eqC rfl (show ((-1) : Int32).toInt = (-1) from rfl) c30
            refine lv_iconst (v := 0) hx hb dX10_lookAhead_49 (by decide) ?_
            refine lv_goto (tgt := 59) hx hb dX10_lookAhead_50 (by decide) ?_
            have b38 : vp_in y2_1 240 := inC rfl (by omega) (by omega)
            have g39 : rg 240 (0) (100) (upd mahf_2 y2_1.toNatClampNeg 0) := rg_upd r_mahf_2 (show (0 : Int32).toInt = 0 from rfl) (by omega) (by omega)
            refine va_iast hx hb hK hP hD hS 13 0 rfl rfl b38 dX10_lookAhead_59 (fun H locs hP hD hS => ?_)
            obtain ⟨mahf_u40, emahf_u40⟩ : ∃ f : Nat → Int32, f = upd mahf_2 y2_1.toNatClampNeg 0 := ⟨_, rfl⟩
            have rmahf_u40 : rg 240 (0) (100) mahf_u40 := by rw [emahf_u40]; exact g39
            have hP : va_P (dC, dI) vwCl (wMod cI cZ cQ b mday mdoo mdA mdB mfar mmar mtel mgai mfal mtop mstr mgho mfai mpto mwal mahd_u27 mahf_u40 mcho mbes mbyt mtxt mpos mtka mtok mdig mnum mfau mrdm mrea mlin mlne mthg mord mbor mbsm mans mand manr mali) H := by rw [emahf_u40]; exact hP
            have hD : va_D A (wMod cI cZ cQ b mday mdoo mdA mdB mfar mmar mtel mgai mfal mtop mstr mgho mfai mpto mwal mahd_u27 mahf_u40 mcho mbes mbyt mtxt mpos mtka mtok mdig mnum mfau mrdm mrea mlin mlne mthg mord mbor mbsm mans mand manr mali) := by rw [emahf_u40]; exact hD
            obtain ⟨z41, ez41⟩ : ∃ y : Int32, y = y2_1 + 1 := ⟨_, rfl⟩
            have iz41 : z41.toInt = y2_1.toInt + 1 := by rw [ez41]; exact addC rfl rfl (by omega) (by omega)
            refine lv_iinc (v := z41) (lv' := [(1, .int z41), (0, .ref (b 39))]) hx hb dX10_lookAhead_60 hl (k := 1) rfl (by rw [ez41]; rfl) (by decide) rfl (fun ls hl => ?_)
            refine lv_goto (tgt := 2) hx hb dX10_lookAhead_63 (by decide) ?_
            exact ih2 z41 mahd_u27 mahf_u40 _ _ _ rmahd_u27 rmahf_u40 (by omega) (by omega) (by omega) hP hD hS (lv_sub hl [1, 0] rfl)
  have kc42 : (0 : Int32).toInt = 0 := rfl
  exact L2 _ 0 mahd mahf _ _ _ r_mahd r_mahf (by omega) (by omega) (Nat.lt_succ_self _) hP hD hS (lv_sub hl [1, 0] rfl)
set_option maxHeartbeats 4000000 in
set_option maxRecDepth 100000 in
theorem k_X10_goWalk (l : Launch) (dC : Nat → ClassId) (dI : Nat → Nat → Nat) (cI cZ cQ : ClassId) (b : Nat → Nat) (mday : Int32) (mdoo : Int32) (mdA : Nat → Int32) (mdB : Nat → Int32) (mfar : Nat → Int32) (mmar : Nat → Int32) (mtel : Int32) (mgai : Int32) (mfal : Nat → Int32) (mtop : Nat → Int32) (mstr : Nat → Int32) (mgho : Nat → Int32) (mfai : Nat → Int32) (mpto : Nat → Int32) (mwal : Nat → Int32) (mahd : Nat → Int32) (mahf : Nat → Int32) (mcho : Nat → Int32) (mbes : Nat → Int32) (mbyt : Int32) (mtxt : Nat → Int32) (mpos : Int32) (mtka : Int32) (mtok : Int64) (mdig : Int32) (mnum : Int32) (mfau : Int32) (mrdm : Int32) (mrea : Nat → Int32) (mlin : Int32) (mlne : Nat → Int32) (mthg : Nat → Int32) (mord : Nat → Int32) (mbor : Nat → Int32) (mbsm : Int32) (mans : Nat → Int32) (mand : Nat → Int32) (manr : Nat → Int32) (mali : Nat → Int32) (sz : Nat) (ro : Int32) (at_ : Int32) (r_mday : 0 ≤ mday.toInt ∧ mday.toInt ≤ 400) (r_mdoo : 0 ≤ mdoo.toInt ∧ mdoo.toInt ≤ 14) (r_mdA : rg 14 (0) (7) mdA) (r_mdB : rg 14 (0) (7) mdB) (r_mmar : rg 24 (0) (255) mmar) (r_mgai : 0 ≤ mgai.toInt ∧ mgai.toInt ≤ 100) (r_mfal : rg 11 (0) (30) mfal) (r_mtop : rg 48 (-1) (23) mtop) (r_mstr : rg 48 (0) (100) mstr) (r_mgho : rg 48 (-1) (23) mgho) (r_mfai : rg 48 (0) (100) mfai) (r_mahd : rg 240 (0) (100) mahd) (r_mahf : rg 240 (0) (100) mahf) (r_mcho : rg 5 (-1) (9) mcho) (r_mbyt : 0 ≤ mbyt.toInt ∧ mbyt.toInt ≤ 160) (r_mpos : 0 ≤ mpos.toInt ∧ mpos.toInt ≤ 160) (r_mrdm : 0 ≤ mrdm.toInt ∧ mrdm.toInt ≤ 10) (r_mlin : 0 ≤ mlin.toInt ∧ mlin.toInt ≤ 10) (r_mthg : rg 8 (0) (31) mthg) (r_mord : rg 8 (-1) (8) mord) (r_mans : rg 4 (0) (12) mans) (q0 : 0 ≤ ro.toInt) (q1 : ro.toInt ≤ 7) (q2 : 0 ≤ at_.toInt) (q3 : at_.toInt ≤ 192) : KW l yX10_goWalk wsX10_goWalk { frames := 0, cells := 0, slots := 0, locals := 0 } (dC, dI) (TY cI cZ cQ) (wMod cI cZ cQ b mday mdoo mdA mdB mfar mmar mtel mgai mfal mtop mstr mgho mfai mpto mwal mahd mahf mcho mbes mbyt mtxt mpos mtka mtok mdig mnum mfau mrdm mrea mlin mlne mthg mord mbor mbsm mans mand manr mali) [.ref (b 39), .int ro, .int at_] sz 0 0 (fun (r : Int32) (u : US) => (rg 240 (0) (100) (u.1 0))) (fun u : US => (wMod cI cZ cQ b mday mdoo mdA mdB mfar mmar mtel mgai mfal mtop mstr mgho mfai mpto mwal (u.1 0) mahf mcho mbes mbyt mtxt mpos mtka mtok mdig mnum mfau mrdm mrea mlin mlne mthg mord mbor mbsm mans mand manr mali)) := by
  refine Met.ofW (cc := cX10_goWalk) (maxL := 6) (ret := (some .int)) (by decide) rfl ?_
  intro p e s m args below meth c s₁ B hml hv
  obtain ⟨rfl, hsz, hP, hK, hD0, hN⟩ := hv
  have hx := B.exec
  have hb := B.bytes
  have hr := B.returns
  have hts := atoms_spec (ws := wsX10_goWalk) B.pre
  have hown : s.vm.findClass RX10 = some m.cls := findClass_of_methodNamed B.named
  have hlocks := B.notSynchronized
  have lf32 := hts (.fieldLink RX10 32 "PalaceOfRoomsModel" "top" "[I") (by decide +kernel)
  have inX10 : ∀ w ∈ wsX100, w ∈ wsX10_goWalk := by decide +kernel
  have lf50 := hts (.fieldLink RX10 50 "PalaceOfRoomsModel" "ahead" "[I") (by decide +kernel)
  have lf26 := hts (.fieldLink RX10 26 "PalaceOfRoomsModel" "gain" "I") (by decide +kernel)
  subst hsz
  have hD := hD0.self (sz := s.heap.size)
  generalize hAe : va_A (wMod cI cZ cQ b mday mdoo mdA mdB mfar mmar mtel mgai mfal mtop mstr mgho mfai mpto mwal mahd mahf mcho mbes mbyt mtxt mpos mtka mtok mdig mnum mfau mrdm mrea mlin mlne mthg mord mbor mbsm mans mand manr mali) s.heap.size = A at hD ⊢
  have hA : ∀ q : Nat, s.heap.size ≤ q → A q := fun q h => by rw [← hAe]; exact Or.inr h
  have hS : va_S A s.heap s.heap [] := va_S.rf
  have hl := lv_entry ([.ref (b 39), .int ro, .int at_]) (n := 6) (Nat.le_of_ble_eq_true rfl)
  rw [lg_entry_eq]
  generalize (lg_sl ([.ref (b 39), .int ro, .int at_]) ++ List.replicate (6 - (lg_sl ([.ref (b 39), .int ro, .int at_])).length) Slot.unset).toArray = ls at hl ⊢
  have hl : lv_has ls 6 [(0, .ref (b 39)), (1, .int ro), (2, .int at_)] := hl
  refine lv_iconst (v := 0) hx hb dX10_goWalk_0 (by decide) ?_
  refine lv_istore_n (lv' := [(3, .int 0), (0, .ref (b 39)), (1, .int ro), (2, .int at_)]) hx hb dX10_goWalk_1 rfl hl (by decide) rfl (fun ls hl => ?_)
  refine lv_bipush (v := 6) hx hb dX10_goWalk_2 (by decide) ?_
  refine lv_iload_n hx hb dX10_goWalk_4 rfl (lv_at hl 2 rfl) ?_
  refine lv_imul hx hb dX10_goWalk_5 ?_
  have f1 : (6 * ro).toInt = (6) * (ro.toInt) := mulC (show (6 : Int32).toInt = 6 from rfl) rfl (by omega) (by omega)
  refine lv_topi (fun x2 ex2 => ?_)
  have ix2 : x2.toInt = (6) * (ro.toInt) := by rw [ex2]; exact f1
  refine lv_istore (lv' := [(4, .int x2), (3, .int 0), (0, .ref (b 39)), (1, .int ro), (2, .int at_)]) hx hb dX10_goWalk_6 hl (by decide) rfl (fun ls hl => ?_)
  have L8 : ∀ (nn : Nat) (y8_3 : Int32) (y8_4 : Int32) (mahd_8 : Nat → Int32) (H : Heap) (locs : List Loc) (ls : Array Slot), (rg 240 (0) (100) mahd_8) → (0 ≤ (y8_4.toInt)) → ((y8_4.toInt) ≤ 48) → (48 - (y8_4.toInt)).toNat < nn → va_P (dC, dI) vwCl (wMod cI cZ cQ b mday mdoo mdA mdB mfar mmar mtel mgai mfal mtop mstr mgho mfai mpto mwal mahd_8 mahf mcho mbes mbyt mtxt mpos mtka mtok mdig mnum mfau mrdm mrea mlin mlne mthg mord mbor mbsm mans mand manr mali) H → va_D A (wMod cI cZ cQ b mday mdoo mdA mdB mfar mmar mtel mgai mfal mtop mstr mgho mfai mpto mwal mahd_8 mahf mcho mbes mbyt mtxt mpos mtka mtok mdig mnum mfau mrdm mrea mlin mlne mthg mord mbor mbsm mans mand manr mali) → va_S A s.heap H locs → lv_has ls 6 [(0, .ref (b 39)), (1, .int ro), (2, .int at_), (3, .int y8_3), (4, .int y8_4)] → W p l e (headSpec wsX10_goWalk { frames := 0, cells := 0, slots := 0, locals := 0 }).room s m ([.ref (b 39), .int ro, .int at_] : List Value).toArray below meth c H locs 0 0 (MQ below (va_Qi (fun (r : Int32) (u : US) => (rg 240 (0) (100) (u.1 0))) (Bw (dC, dI) A (fun u : US => (wMod cI cZ cQ b mday mdoo mdA mdB mfar mmar mtel mgai mfal mtop mstr mgho mfai mpto mwal (u.1 0) mahf mcho mbes mbyt mtxt mpos mtka mtok mdig mnum mfau mrdm mrea mlin mlne mthg mord mbor mbsm mans mand manr mali))) A) ([.ref (b 39), .int ro, .int at_] : List Value).toArray s 0 0 A) (F0 m 8 ls []) := by
    intro nn
    induction nn with
    | zero =>
      intro y8_3 y8_4 mahd_8 H locs ls r_mahd_8 i8_0 i8_1 hm
      exact absurd hm (Nat.not_lt_zero _)
    | succ nn ih8 =>
      intro y8_3 y8_4 mahd_8 H locs ls r_mahd_8 i8_0 i8_1 hm hP hD hS hl
      refine lv_iload hx hb dX10_goWalk_8 (lv_at hl 4 rfl) ?_
      refine lv_bipush (v := 6) hx hb dX10_goWalk_10 (by decide) ?_
      refine lv_iload_n hx hb dX10_goWalk_12 rfl (lv_at hl 1 rfl) ?_
      refine lv_imul hx hb dX10_goWalk_13 ?_
      have f3 : (6 * ro).toInt = (6) * (ro.toInt) := mulC (show (6 : Int32).toInt = 6 from rfl) rfl (by omega) (by omega)
      refine lv_bipush (v := 6) hx hb dX10_goWalk_14 (by decide) ?_
      refine lv_iadd hx hb dX10_goWalk_16 ?_
      have f4 : ((6 * ro) + 6).toInt = ((6) * (ro.toInt)) + (6) := addC f3 (show (6 : Int32).toInt = 6 from rfl) (by omega) (by omega)
      refine lv_icmp_ge (tgt := 82) hx hb dX10_goWalk_17 (by decide) (fun c5 => ?_) (fun c5 => ?_)
      · have dc5 : ((6) * (ro.toInt)) + (6) ≤ y8_4.toInt := leC f4 rfl c5
        refine lv_iload_n hx hb dX10_goWalk_82 rfl (lv_at hl 3 rfl) ?_
        exact W.iret (v := y8_3) hx hb hr (fun tq ht hW => ⟨⟨y8_3, (uS [mahd_8] 0 (fun _ => 0)), rfl, r_mahd_8, by rw [ht]; exact hP, hD⟩, hS.F ht⟩) hS.2.2 dX10_goWalk_83
      · have dc5 : y8_4.toInt < ((6) * (ro.toInt)) + (6) := nleC f4 rfl c5
        refine lv_aload_n hx hb dX10_goWalk_20 rfl (lv_at hl 0 rfl) ?_
        refine va_get (D := (dC, dI)) (ci := 10) (v := .ref (b 9)) (C := RX10) (T := TX10) (N := 39) hx hb hts inX10 hown hK hP 0 rfl rfl 9 (by decide) lf32 (fun _ h9 => h9) rfl dX10_goWalk_21 ?_
        refine lv_iload hx hb dX10_goWalk_24 (lv_at hl 4 rfl) ?_
        have b6 : vp_in y8_4 48 := inC rfl (by omega) (by omega)
        refine va_iald hx hb hK hP 6 0 rfl rfl b6 dX10_goWalk_26 ?_
        have g7 : -1 ≤ (mtop y8_4.toNatClampNeg).toInt ∧ (mtop y8_4.toNatClampNeg).toInt ≤ 23 := rg_at r_mtop b6
        refine lv_iconst (v := (-1)) hx hb dX10_goWalk_27 (by decide) ?_
        refine lv_icmp_ne (tgt := 35) hx hb dX10_goWalk_28 (by decide) (fun c8 => ?_) (fun c8 => ?_)
        · have dc8 : (mtop y8_4.toNatClampNeg).toInt ≠ (-1) := neC rfl (show ((-1) : Int32).toInt = (-1) from rfl) c8
          refine lv_bipush (v := 100) hx hb dX10_goWalk_35 (by decide) ?_
          refine lv_aload_n hx hb dX10_goWalk_37 rfl (lv_at hl 0 rfl) ?_
          refine va_get (D := (dC, dI)) (ci := 10) (v := .ref (b 15)) (C := RX10) (T := TX10) (N := 39) hx hb hts inX10 hown hK hP 0 rfl rfl 15 (by decide) lf50 (fun _ h9 => h9) rfl dX10_goWalk_38 ?_
          refine lv_iload_n hx hb dX10_goWalk_41 rfl (lv_at hl 2 rfl) ?_
          refine lv_iload hx hb dX10_goWalk_42 (lv_at hl 4 rfl) ?_
          refine lv_iadd hx hb dX10_goWalk_44 ?_
          have f9 : (at_ + y8_4).toInt = (at_.toInt) + (y8_4.toInt) := addC rfl rfl (by omega) (by omega)
          have b10 : vp_in (at_ + y8_4) 240 := inC f9 (by omega) (by omega)
          refine va_iald hx hb hK hP 12 0 rfl rfl b10 dX10_goWalk_45 ?_
          have g11 : 0 ≤ (mahd_8 (at_ + y8_4).toNatClampNeg).toInt ∧ (mahd_8 (at_ + y8_4).toNatClampNeg).toInt ≤ 100 := rg_at r_mahd_8 b10
          refine lv_isub hx hb dX10_goWalk_46 ?_
          have f12 : (100 - (mahd_8 (at_ + y8_4).toNatClampNeg)).toInt = (100) - ((mahd_8 (at_ + y8_4).toNatClampNeg).toInt) := subC (show (100 : Int32).toInt = 100 from rfl) rfl (by omega) (by omega)
          refine lv_aload_n hx hb dX10_goWalk_47 rfl (lv_at hl 0 rfl) ?_
          refine va_get (D := (dC, dI)) (ci := 10) (v := .int mgai) (C := RX10) (T := TX10) (N := 39) hx hb hts inX10 hown hK hP 0 rfl rfl 7 (by decide) lf26 (fun _ h9 => h9) rfl dX10_goWalk_48 ?_
          refine lv_imul hx hb dX10_goWalk_51 ?_
          obtain ⟨f13, f13_1, f13_2⟩ := mulB (a := (100 - (mahd_8 (at_ + y8_4).toNatClampNeg))) (b := mgai) (A := (100) - ((mahd_8 (at_ + y8_4).toNatClampNeg).toInt)) (B := mgai.toInt) (p := 100) (q := 100) f12 rfl (by omega) (by omega) (by omega) (by omega) (by decide)
          refine lv_bipush (v := 100) hx hb dX10_goWalk_52 (by decide) ?_
          refine lv_idiv hx hb dX10_goWalk_54 (by decide) ?_
          have f14 : (((100 - (mahd_8 (at_ + y8_4).toNatClampNeg)) * mgai) / 100).toInt = (((100) - ((mahd_8 (at_ + y8_4).toNatClampNeg).toInt)) * (mgai.toInt)) / (100) := divC f13 (show (100 : Int32).toInt = 100 from rfl) (by omega) (by omega)
          refine lv_topi (fun x15 ex15 => ?_)
          have ix15 : x15.toInt = (((100) - ((mahd_8 (at_ + y8_4).toNatClampNeg).toInt)) * (mgai.toInt)) / (100) := by rw [ex15]; exact f14
          refine lv_istore (lv' := [(5, .int x15), (0, .ref (b 39)), (1, .int ro), (2, .int at_), (3, .int y8_3), (4, .int y8_4)]) hx hb dX10_goWalk_55 hl (by decide) rfl (fun ls hl => ?_)
          refine lv_aload_n hx hb dX10_goWalk_57 rfl (lv_at hl 1 rfl) ?_
          refine va_get (D := (dC, dI)) (ci := 10) (v := .ref (b 15)) (C := RX10) (T := TX10) (N := 39) hx hb hts inX10 hown hK hP 0 rfl rfl 15 (by decide) lf50 (fun _ h9 => h9) rfl dX10_goWalk_58 ?_
          refine lv_iload_n hx hb dX10_goWalk_61 rfl (lv_at hl 3 rfl) ?_
          refine lv_iload hx hb dX10_goWalk_62 (lv_at hl 5 rfl) ?_
          refine lv_iadd hx hb dX10_goWalk_64 ?_
          have f16 : (at_ + y8_4).toInt = (at_.toInt) + (y8_4.toInt) := addC rfl rfl (by omega) (by omega)
          refine lv_dup2_11 hx hb dX10_goWalk_65 rfl rfl ?_
          have b17 : vp_in (at_ + y8_4) 240 := inC f16 (by omega) (by omega)
          refine va_iald hx hb hK hP 12 0 rfl rfl b17 dX10_goWalk_66 ?_
          have g18 : 0 ≤ (mahd_8 (at_ + y8_4).toNatClampNeg).toInt ∧ (mahd_8 (at_ + y8_4).toNatClampNeg).toInt ≤ 100 := rg_at r_mahd_8 b17
          refine lv_iload hx hb dX10_goWalk_67 (lv_at hl 0 rfl) ?_
          refine lv_iadd hx hb dX10_goWalk_69 ?_
          have f19 : ((mahd_8 (at_ + y8_4).toNatClampNeg) + x15).toInt = ((mahd_8 (at_ + y8_4).toNatClampNeg).toInt) + (x15.toInt) := addC rfl rfl (by omega) (by omega)
          refine lv_topi (fun x20 ex20 => ?_)
          have ix20 : x20.toInt = ((mahd_8 (at_ + y8_4).toNatClampNeg).toInt) + (x15.toInt) := by rw [ex20]; exact f19
          have b21 : vp_in (at_ + y8_4) 240 := inC f16 (by omega) (by omega)
          have g22 : rg 240 (0) (100) (upd mahd_8 (at_ + y8_4).toNatClampNeg x20) := rg_upd r_mahd_8 rfl (by omega) (by omega)
          refine va_iast hx hb hK hP hD hS 12 0 rfl rfl b21 dX10_goWalk_70 (fun H locs hP hD hS => ?_)
          obtain ⟨mahd_u23, emahd_u23⟩ : ∃ f : Nat → Int32, f = upd mahd_8 (at_ + y8_4).toNatClampNeg x20 := ⟨_, rfl⟩
          have rmahd_u23 : rg 240 (0) (100) mahd_u23 := by rw [emahd_u23]; exact g22
          have hP : va_P (dC, dI) vwCl (wMod cI cZ cQ b mday mdoo mdA mdB mfar mmar mtel mgai mfal mtop mstr mgho mfai mpto mwal mahd_u23 mahf mcho mbes mbyt mtxt mpos mtka mtok mdig mnum mfau mrdm mrea mlin mlne mthg mord mbor mbsm mans mand manr mali) H := by rw [emahd_u23]; exact hP
          have hD : va_D A (wMod cI cZ cQ b mday mdoo mdA mdB mfar mmar mtel mgai mfal mtop mstr mgho mfai mpto mwal mahd_u23 mahf mcho mbes mbyt mtxt mpos mtka mtok mdig mnum mfau mrdm mrea mlin mlne mthg mord mbor mbsm mans mand manr mali) := by rw [emahd_u23]; exact hD
          refine lv_iload_n hx hb dX10_goWalk_71 rfl (lv_at hl 4 rfl) ?_
          refine lv_iload hx hb dX10_goWalk_72 (lv_at hl 0 rfl) ?_
          refine lv_iadd hx hb dX10_goWalk_74 ?_
          refine lv_topi (fun x24 ex24 => ?_)
          have ix24 : x24.toInt = (y8_3 + x15).toInt := by rw [ex24]
          refine lv_istore_n (lv' := [(3, .int x24), (5, .int x15), (0, .ref (b 39)), (1, .int ro), (2, .int at_), (4, .int y8_4)]) hx hb dX10_goWalk_75 rfl hl (by decide) rfl (fun ls hl => ?_)
          obtain ⟨z25, ez25⟩ : ∃ y : Int32, y = y8_4 + 1 := ⟨_, rfl⟩
          have iz25 : z25.toInt = y8_4.toInt + 1 := by rw [ez25]; exact addC rfl rfl (by omega) (by omega)
          refine lv_iinc (v := z25) (lv' := [(4, .int z25), (3, .int x24), (5, .int x15), (0, .ref (b 39)), (1, .int ro), (2, .int at_)]) hx hb dX10_goWalk_76 hl (k := 5) rfl (by rw [ez25]; rfl) (by decide) rfl (fun ls hl => ?_)
          refine lv_goto (tgt := 8) hx hb dX10_goWalk_79 (by decide) ?_
          exact ih8 x24 z25 mahd_u23 _ _ _ rmahd_u23 (by omega) (by omega) (by omega) hP hD hS (lv_sub hl [3, 4, 5, 1, 0] rfl)
        · have dc8 : (mtop y8_4.toNatClampNeg).toInt = (-1) := eqC rfl (show ((-1) : Int32).toInt = (-1) from rfl) c8
          refine lv_iconst (v := 0) hx hb dX10_goWalk_31 (by decide) ?_
          refine lv_goto (tgt := 55) hx hb dX10_goWalk_32 (by decide) ?_
          refine lv_istore (lv' := [(5, .int 0), (0, .ref (b 39)), (1, .int ro), (2, .int at_), (3, .int y8_3), (4, .int y8_4)]) hx hb dX10_goWalk_55 hl (by decide) rfl (fun ls hl => ?_)
          refine lv_aload_n hx hb dX10_goWalk_57 rfl (lv_at hl 1 rfl) ?_
          refine va_get (D := (dC, dI)) (ci := 10) (v := .ref (b 15)) (C := RX10) (T := TX10) (N := 39) hx hb hts inX10 hown hK hP 0 rfl rfl 15 (by decide) lf50 (fun _ h9 => h9) rfl dX10_goWalk_58 ?_
          refine lv_iload_n hx hb dX10_goWalk_61 rfl (lv_at hl 3 rfl) ?_
          refine lv_iload hx hb dX10_goWalk_62 (lv_at hl 5 rfl) ?_
          refine lv_iadd hx hb dX10_goWalk_64 ?_
          have f26 : (at_ + y8_4).toInt = (at_.toInt) + (y8_4.toInt) := addC rfl rfl (by omega) (by omega)
          refine lv_dup2_11 hx hb dX10_goWalk_65 rfl rfl ?_
          have b27 : vp_in (at_ + y8_4) 240 := inC f26 (by omega) (by omega)
          refine va_iald hx hb hK hP 12 0 rfl rfl b27 dX10_goWalk_66 ?_
          have g28 : 0 ≤ (mahd_8 (at_ + y8_4).toNatClampNeg).toInt ∧ (mahd_8 (at_ + y8_4).toNatClampNeg).toInt ≤ 100 := rg_at r_mahd_8 b27
          refine lv_iload hx hb dX10_goWalk_67 (lv_at hl 0 rfl) ?_
          refine lv_iadd hx hb dX10_goWalk_69 ?_
          have f29 : ((mahd_8 (at_ + y8_4).toNatClampNeg) + 0).toInt = ((mahd_8 (at_ + y8_4).toNatClampNeg).toInt) + (0) := addC rfl (show (0 : Int32).toInt = 0 from rfl) (by omega) (by omega)
          refine lv_topi (fun x30 ex30 => ?_)
          have ix30 : x30.toInt = ((mahd_8 (at_ + y8_4).toNatClampNeg).toInt) + (0) := by rw [ex30]; exact f29
          have b31 : vp_in (at_ + y8_4) 240 := inC f26 (by omega) (by omega)
          have g32 : rg 240 (0) (100) (upd mahd_8 (at_ + y8_4).toNatClampNeg x30) := rg_upd r_mahd_8 rfl (by omega) (by omega)
          refine va_iast hx hb hK hP hD hS 12 0 rfl rfl b31 dX10_goWalk_70 (fun H locs hP hD hS => ?_)
          obtain ⟨mahd_u33, emahd_u33⟩ : ∃ f : Nat → Int32, f = upd mahd_8 (at_ + y8_4).toNatClampNeg x30 := ⟨_, rfl⟩
          have rmahd_u33 : rg 240 (0) (100) mahd_u33 := by rw [emahd_u33]; exact g32
          have hP : va_P (dC, dI) vwCl (wMod cI cZ cQ b mday mdoo mdA mdB mfar mmar mtel mgai mfal mtop mstr mgho mfai mpto mwal mahd_u33 mahf mcho mbes mbyt mtxt mpos mtka mtok mdig mnum mfau mrdm mrea mlin mlne mthg mord mbor mbsm mans mand manr mali) H := by rw [emahd_u33]; exact hP
          have hD : va_D A (wMod cI cZ cQ b mday mdoo mdA mdB mfar mmar mtel mgai mfal mtop mstr mgho mfai mpto mwal mahd_u33 mahf mcho mbes mbyt mtxt mpos mtka mtok mdig mnum mfau mrdm mrea mlin mlne mthg mord mbor mbsm mans mand manr mali) := by rw [emahd_u33]; exact hD
          refine lv_iload_n hx hb dX10_goWalk_71 rfl (lv_at hl 4 rfl) ?_
          refine lv_iload hx hb dX10_goWalk_72 (lv_at hl 0 rfl) ?_
          refine lv_iadd hx hb dX10_goWalk_74 ?_
          refine lv_topi (fun x34 ex34 => ?_)
          have ix34 : x34.toInt = (y8_3 + 0).toInt := by rw [ex34]
          refine lv_istore_n (lv' := [(3, .int x34), (5, .int 0), (0, .ref (b 39)), (1, .int ro), (2, .int at_), (4, .int y8_4)]) hx hb dX10_goWalk_75 rfl hl (by decide) rfl (fun ls hl => ?_)
          obtain ⟨z35, ez35⟩ : ∃ y : Int32, y = y8_4 + 1 := ⟨_, rfl⟩
          have iz35 : z35.toInt = y8_4.toInt + 1 := by rw [ez35]; exact addC rfl rfl (by omega) (by omega)
          refine lv_iinc (v := z35) (lv' := [(4, .int z35), (3, .int x34), (5, .int 0), (0, .ref (b 39)), (1, .int ro), (2, .int at_)]) hx hb dX10_goWalk_76 hl (k := 5) rfl (by rw [ez35]; rfl) (by decide) rfl (fun ls hl => ?_)
          refine lv_goto (tgt := 8) hx hb dX10_goWalk_79 (by decide) ?_
          exact ih8 x34 z35 mahd_u33 _ _ _ rmahd_u33 (by omega) (by omega) (by omega) hP hD hS (lv_sub hl [3, 4, 5, 1, 0] rfl)
  have kc36 : (0 : Int32).toInt = 0 := rfl
  exact L8 _ 0 x2 mahd _ _ _ r_mahd (by omega) (by omega) (Nat.lt_succ_self _) hP hD hS (lv_sub hl [2, 3, 4, 1, 0] rfl)
set_option maxHeartbeats 4000000 in
set_option maxRecDepth 100000 in
theorem k_X10_write (l : Launch) (dC : Nat → ClassId) (dI : Nat → Nat → Nat) (cI cZ cQ : ClassId) (b : Nat → Nat) (mday : Int32) (mdoo : Int32) (mdA : Nat → Int32) (mdB : Nat → Int32) (mfar : Nat → Int32) (mmar : Nat → Int32) (mtel : Int32) (mgai : Int32) (mfal : Nat → Int32) (mtop : Nat → Int32) (mstr : Nat → Int32) (mgho : Nat → Int32) (mfai : Nat → Int32) (mpto : Nat → Int32) (mwal : Nat → Int32) (mahd : Nat → Int32) (mahf : Nat → Int32) (mcho : Nat → Int32) (mbes : Nat → Int32) (mbyt : Int32) (mtxt : Nat → Int32) (mpos : Int32) (mtka : Int32) (mtok : Int64) (mdig : Int32) (mnum : Int32) (mfau : Int32) (mrdm : Int32) (mrea : Nat → Int32) (mlin : Int32) (mlne : Nat → Int32) (mthg : Nat → Int32) (mord : Nat → Int32) (mbor : Nat → Int32) (mbsm : Int32) (mans : Nat → Int32) (mand : Nat → Int32) (manr : Nat → Int32) (mali : Nat → Int32) (sz : Nat) (so : Int64) (n : Int32) (r_mday : 0 ≤ mday.toInt ∧ mday.toInt ≤ 400) (r_mdoo : 0 ≤ mdoo.toInt ∧ mdoo.toInt ≤ 14) (r_mdA : rg 14 (0) (7) mdA) (r_mdB : rg 14 (0) (7) mdB) (r_mmar : rg 24 (0) (255) mmar) (r_mgai : 0 ≤ mgai.toInt ∧ mgai.toInt ≤ 100) (r_mfal : rg 11 (0) (30) mfal) (r_mtop : rg 48 (-1) (23) mtop) (r_mstr : rg 48 (0) (100) mstr) (r_mgho : rg 48 (-1) (23) mgho) (r_mfai : rg 48 (0) (100) mfai) (r_mahd : rg 240 (0) (100) mahd) (r_mahf : rg 240 (0) (100) mahf) (r_mcho : rg 5 (-1) (9) mcho) (r_mbyt : 0 ≤ mbyt.toInt ∧ mbyt.toInt ≤ 160) (r_mpos : 0 ≤ mpos.toInt ∧ mpos.toInt ≤ 160) (r_mrdm : 0 ≤ mrdm.toInt ∧ mrdm.toInt ≤ 10) (r_mlin : 0 ≤ mlin.toInt ∧ mlin.toInt ≤ 10) (r_mthg : rg 8 (0) (31) mthg) (r_mord : rg 8 (-1) (8) mord) (r_mans : rg 4 (0) (12) mans) : KW l yX10_write wsX10_write { frames := 1, cells := 0, slots := 0, locals := 22 } (dC, dI) (TY cI cZ cQ) (wMod cI cZ cQ b mday mdoo mdA mdB mfar mmar mtel mgai mfal mtop mstr mgho mfai mpto mwal mahd mahf mcho mbes mbyt mtxt mpos mtka mtok mdig mnum mfau mrdm mrea mlin mlne mthg mord mbor mbsm mans mand manr mali) [.ref (b 39), .long so, .int n] sz 0 0 (fun (r : Int32) (u : US) => (0 ≤ (u.1 1 0).toInt ∧ (u.1 1 0).toInt ≤ 160)) (fun u : US => (wMod cI cZ cQ b mday mdoo mdA mdB mfar mmar mtel mgai mfal mtop mstr mgho mfai mpto mwal mahd mahf mcho mbes (u.1 1 0) (u.1 0) mpos mtka mtok mdig mnum mfau mrdm mrea mlin mlne mthg mord mbor mbsm mans mand manr mali)) := by
  refine Met.ofW (cc := cX10_write) (maxL := 5) (ret := (some .int)) (by decide) rfl ?_
  intro p e s m args below meth c s₁ B hml hv
  obtain ⟨rfl, hsz, hP, hK, hD0, hN⟩ := hv
  have hx := B.exec
  have hb := B.bytes
  have hr := B.returns
  have hts := atoms_spec (ws := wsX10_write) B.pre
  have hown : s.vm.findClass RX10 = some m.cls := findClass_of_methodNamed B.named
  have hlocks := B.notSynchronized
  have lf141 := hts (.fieldLink RX10 141 "PalaceOfRoomsModel" "bytes" "I") (by decide +kernel)
  have inX10 : ∀ w ∈ wsX100, w ∈ wsX10_write := by decide +kernel
  have lf62 := hts (.fieldLink RX10 62 "PalaceOfRoomsModel" "text" "[I") (by decide +kernel)
  subst hsz
  have hD := hD0.self (sz := s.heap.size)
  generalize hAe : va_A (wMod cI cZ cQ b mday mdoo mdA mdB mfar mmar mtel mgai mfal mtop mstr mgho mfai mpto mwal mahd mahf mcho mbes mbyt mtxt mpos mtka mtok mdig mnum mfau mrdm mrea mlin mlne mthg mord mbor mbsm mans mand manr mali) s.heap.size = A at hD ⊢
  have hA : ∀ q : Nat, s.heap.size ≤ q → A q := fun q h => by rw [← hAe]; exact Or.inr h
  have hS : va_S A s.heap s.heap [] := va_S.rf
  have hl := lv_entry ([.ref (b 39), .long so, .int n]) (n := 5) (Nat.le_of_ble_eq_true rfl)
  rw [lg_entry_eq]
  generalize (lg_sl ([.ref (b 39), .long so, .int n]) ++ List.replicate (5 - (lg_sl ([.ref (b 39), .long so, .int n])).length) Slot.unset).toArray = ls at hl ⊢
  have hl : lv_has ls 5 [(0, .ref (b 39)), (1, .long so), (3, .int n)] := hl
  refine lv_iload_n hx hb dX10_write_0 rfl (lv_at hl 2 rfl) ?_
  refine lv_iconst (v := 1) hx hb dX10_write_1 (by decide) ?_
  refine lv_bipush (v := 8) hx hb dX10_write_2 (by decide) ?_
  refine rdS (As := [.int n, .int 1, .int 8]) (rest := []) ⟨hx, hb, hml, hown, hts⟩ (k_X10_in l dC dI cI cZ cQ n (1 : Int32) (8 : Int32)) (va_cwS 3 hts gX10_write_X10_in rfl rfl rfl (by decide +kernel) ⟨Nat.le_of_ble_eq_true rfl, Nat.le_of_ble_eq_true rfl⟩) hP hK hN [] rfl rfl hl.1 rfl (Nat.le_of_ble_eq_true rfl) dX10_write_4 ⟨Nat.le_of_ble_eq_true rfl, Nat.le_of_ble_eq_true rfl⟩ (fun r1 h2 => ?_)
  have h2 : ((((r1 = 1) ∧ ((1) ≤ n.toInt) ∧ (n.toInt ≤ (8))) ∨ ((r1 = 0) ∧ (n.toInt < (1) ∨ (8) < n.toInt)))) := h2
  rcases h2 with (⟨rfl, h2_a0, h2_a1⟩ | ⟨rfl, h2_a0⟩)
  · refine lv_if_ne (tgt := 13) hx hb dX10_write_7 (by decide) (fun _ => ?_) (fun c9 => absurd c9 (by decide))
    refine lv_aload_n hx hb dX10_write_13 rfl (lv_at hl 0 rfl) ?_
    refine va_get (D := (dC, dI)) (ci := 10) (v := .int mbyt) (C := RX10) (T := TX10) (N := 39) hx hb hts inX10 hown hK hP 0 rfl rfl 19 (by decide) lf141 (fun _ h9 => h9) rfl dX10_write_14 ?_
    refine lv_iload_n hx hb dX10_write_17 rfl (lv_at hl 2 rfl) ?_
    refine lv_iadd hx hb dX10_write_18 ?_
    have f3 : (mbyt + n).toInt = (mbyt.toInt) + (n.toInt) := addC rfl rfl (by omega) (by omega)
    refine lv_sipush (v := 160) hx hb dX10_write_19 (by decide) ?_
    refine lv_icmp_le (tgt := 28) hx hb dX10_write_22 (by decide) (fun c4 => ?_) (fun c4 => ?_)
    · have dc4 : (mbyt.toInt) + (n.toInt) ≤ 160 := leC f3 (show (160 : Int32).toInt = 160 from rfl) c4
      refine lv_iconst (v := 0) hx hb dX10_write_28 (by decide) ?_
      refine lv_istore (lv' := [(4, .int 0), (0, .ref (b 39)), (1, .long so), (3, .int n)]) hx hb dX10_write_29 hl (by decide) rfl (fun ls hl => ?_)
      have L31 : ∀ (nn : Nat) (y31_4 : Int32) (mtxt_31 : Nat → Int32) (H : Heap) (locs : List Loc) (ls : Array Slot), (0 ≤ (y31_4.toInt)) → ((y31_4.toInt) ≤ 8) → (8 - (y31_4.toInt)).toNat < nn → va_P (dC, dI) vwCl (wMod cI cZ cQ b mday mdoo mdA mdB mfar mmar mtel mgai mfal mtop mstr mgho mfai mpto mwal mahd mahf mcho mbes mbyt mtxt_31 mpos mtka mtok mdig mnum mfau mrdm mrea mlin mlne mthg mord mbor mbsm mans mand manr mali) H → va_D A (wMod cI cZ cQ b mday mdoo mdA mdB mfar mmar mtel mgai mfal mtop mstr mgho mfai mpto mwal mahd mahf mcho mbes mbyt mtxt_31 mpos mtka mtok mdig mnum mfau mrdm mrea mlin mlne mthg mord mbor mbsm mans mand manr mali) → va_S A s.heap H locs → lv_has ls 5 [(0, .ref (b 39)), (1, .long so), (3, .int n), (4, .int y31_4)] → W p l e (headSpec wsX10_write { frames := 1, cells := 0, slots := 0, locals := 22 }).room s m ([.ref (b 39), .long so, .int n] : List Value).toArray below meth c H locs 0 0 (MQ below (va_Qi (fun (r : Int32) (u : US) => (0 ≤ (u.1 1 0).toInt ∧ (u.1 1 0).toInt ≤ 160)) (Bw (dC, dI) A (fun u : US => (wMod cI cZ cQ b mday mdoo mdA mdB mfar mmar mtel mgai mfal mtop mstr mgho mfai mpto mwal mahd mahf mcho mbes (u.1 1 0) (u.1 0) mpos mtka mtok mdig mnum mfau mrdm mrea mlin mlne mthg mord mbor mbsm mans mand manr mali))) A) ([.ref (b 39), .long so, .int n] : List Value).toArray s 0 0 A) (F0 m 31 ls []) := by
        intro nn
        induction nn with
        | zero =>
          intro y31_4 mtxt_31 H locs ls i31_0 i31_1 hm
          exact absurd hm (Nat.not_lt_zero _)
        | succ nn ih31 =>
          intro y31_4 mtxt_31 H locs ls i31_0 i31_1 hm hP hD hS hl
          refine lv_iload hx hb dX10_write_31 (lv_at hl 3 rfl) ?_
          refine lv_iload_n hx hb dX10_write_33 rfl (lv_at hl 2 rfl) ?_
          refine lv_icmp_ge (tgt := 67) hx hb dX10_write_34 (by decide) (fun c5 => ?_) (fun c5 => ?_)
          · have dc5 : n.toInt ≤ y31_4.toInt := leC rfl rfl c5
            refine lv_aload_n hx hb dX10_write_67 rfl (lv_at hl 0 rfl) ?_
            refine lv_dup hx hb dX10_write_68 rfl ?_
            refine va_get (D := (dC, dI)) (ci := 10) (v := .int mbyt) (C := RX10) (T := TX10) (N := 39) hx hb hts inX10 hown hK hP 0 rfl rfl 19 (by decide) lf141 (fun _ h9 => h9) rfl dX10_write_69 ?_
            refine lv_iload_n hx hb dX10_write_72 rfl (lv_at hl 2 rfl) ?_
            refine lv_iadd hx hb dX10_write_73 ?_
            have f6 : (mbyt + n).toInt = (mbyt.toInt) + (n.toInt) := addC rfl rfl (by omega) (by omega)
            refine lv_topi (fun x7 ex7 => ?_)
            have ix7 : x7.toInt = (mbyt.toInt) + (n.toInt) := by rw [ex7]; exact f6
            refine va_put (D := (dC, dI)) (ci := 10) (v := .int x7) (ty := .int) (C := RX10) (T := TX10) (N := 39) hx hb hts inX10 tyX10 tyX10_ok nmX10 hown hK hP hD hS 0 rfl rfl 19 (by decide) lf141 (fun _ h9 => h9) rfl (by decide +kernel) rfl rfl (Nat.le_of_ble_eq_true rfl) dX10_write_74 (fun H locs hP hD hS => ?_)
            have g8 : 0 ≤ x7.toInt ∧ x7.toInt ≤ 160 := by rw [show x7.toInt = x7.toInt from rfl]; exact ⟨by omega, by omega⟩
            have hP : va_P (dC, dI) vwCl (wMod cI cZ cQ b mday mdoo mdA mdB mfar mmar mtel mgai mfal mtop mstr mgho mfai mpto mwal mahd mahf mcho mbes x7 mtxt_31 mpos mtka mtok mdig mnum mfau mrdm mrea mlin mlne mthg mord mbor mbsm mans mand manr mali) H := hP
            have hD : va_D A (wMod cI cZ cQ b mday mdoo mdA mdB mfar mmar mtel mgai mfal mtop mstr mgho mfai mpto mwal mahd mahf mcho mbes x7 mtxt_31 mpos mtka mtok mdig mnum mfau mrdm mrea mlin mlne mthg mord mbor mbsm mans mand manr mali) := hD
            refine lv_aload_n hx hb dX10_write_77 rfl (lv_at hl 0 rfl) ?_
            refine va_get (D := (dC, dI)) (ci := 10) (v := .int x7) (C := RX10) (T := TX10) (N := 39) hx hb hts inX10 hown hK hP 0 rfl rfl 19 (by decide) lf141 (fun _ h9 => h9) rfl dX10_write_78 ?_
            exact W.iret (v := x7) hx hb hr (fun tq ht hW => ⟨⟨x7, (uS [mtxt_31, (fun _ => x7)] 0 (fun _ => 0)), rfl, g8, by rw [ht]; exact hP, hD⟩, hS.F ht⟩) hS.2.2 dX10_write_81
          · have dc5 : y31_4.toInt < n.toInt := nleC rfl rfl c5
            refine lv_aload_n hx hb dX10_write_37 rfl (lv_at hl 0 rfl) ?_
            refine va_get (D := (dC, dI)) (ci := 10) (v := .ref (b 20)) (C := RX10) (T := TX10) (N := 39) hx hb hts inX10 hown hK hP 0 rfl rfl 20 (by decide) lf62 (fun _ h9 => h9) rfl dX10_write_38 ?_
            refine lv_aload_n hx hb dX10_write_41 rfl (lv_at hl 0 rfl) ?_
            refine va_get (D := (dC, dI)) (ci := 10) (v := .int mbyt) (C := RX10) (T := TX10) (N := 39) hx hb hts inX10 hown hK hP 0 rfl rfl 19 (by decide) lf141 (fun _ h9 => h9) rfl dX10_write_42 ?_
            refine lv_iload hx hb dX10_write_45 (lv_at hl 3 rfl) ?_
            refine lv_iadd hx hb dX10_write_47 ?_
            have f9 : (mbyt + y31_4).toInt = (mbyt.toInt) + (y31_4.toInt) := addC rfl rfl (by omega) (by omega)
            refine lv_lload_n hx hb dX10_write_48 rfl (lv_at hl 1 rfl) ?_
            refine lv_bipush (v := 8) hx hb dX10_write_49 (by decide) ?_
            refine lv_iload hx hb dX10_write_51 (lv_at hl 3 rfl) ?_
            refine lv_imul hx hb dX10_write_53 ?_
            have f10 : (8 * y31_4).toInt = (8) * (y31_4.toInt) := mulC (show (8 : Int32).toInt = 8 from rfl) rfl (by omega) (by omega)
            refine lv_lshr hx hb dX10_write_54 rfl ?_
            refine lv_ldc2 (v := 255) hx hb hown (hts (.constantLong RX10 144 (255)) (by decide +kernel)) dX10_write_55 ?_
            refine lv_land hx hb dX10_write_58 ?_
            refine lv_l2i hx hb dX10_write_59 rfl ?_
            have f11 : 0 ≤ (((so >>> ((8 * y31_4).toInt64 &&& 63)) &&& 255).toInt32).toInt ∧ (((so >>> ((8 * y31_4).toInt64 &&& 63)) &&& 255).toInt32).toInt ≤ 255 := l2iM255 _
            refine lv_topi (fun x12 ex12 => ?_)
            have ix12 : x12.toInt = (((so >>> ((8 * y31_4).toInt64 &&& 63)) &&& 255).toInt32).toInt := by rw [ex12]
            have b13 : vp_in (mbyt + y31_4) 160 := inC f9 (by omega) (by omega)
            refine va_iast hx hb hK hP hD hS 16 0 rfl rfl b13 dX10_write_60 (fun H locs hP hD hS => ?_)
            obtain ⟨mtxt_u14, emtxt_u14⟩ : ∃ f : Nat → Int32, f = upd mtxt_31 (mbyt + y31_4).toNatClampNeg x12 := ⟨_, rfl⟩
            have hP : va_P (dC, dI) vwCl (wMod cI cZ cQ b mday mdoo mdA mdB mfar mmar mtel mgai mfal mtop mstr mgho mfai mpto mwal mahd mahf mcho mbes mbyt mtxt_u14 mpos mtka mtok mdig mnum mfau mrdm mrea mlin mlne mthg mord mbor mbsm mans mand manr mali) H := by rw [emtxt_u14]; exact hP
            have hD : va_D A (wMod cI cZ cQ b mday mdoo mdA mdB mfar mmar mtel mgai mfal mtop mstr mgho mfai mpto mwal mahd mahf mcho mbes mbyt mtxt_u14 mpos mtka mtok mdig mnum mfau mrdm mrea mlin mlne mthg mord mbor mbsm mans mand manr mali) := by rw [emtxt_u14]; exact hD
            obtain ⟨z15, ez15⟩ : ∃ y : Int32, y = y31_4 + 1 := ⟨_, rfl⟩
            have iz15 : z15.toInt = y31_4.toInt + 1 := by rw [ez15]; exact addC rfl rfl (by omega) (by omega)
            refine lv_iinc (v := z15) (lv' := [(4, .int z15), (0, .ref (b 39)), (1, .long so), (3, .int n)]) hx hb dX10_write_61 hl (k := 3) rfl (by rw [ez15]; rfl) (by decide) rfl (fun ls hl => ?_)
            refine lv_goto (tgt := 31) hx hb dX10_write_64 (by decide) ?_
            exact ih31 z15 mtxt_u14 _ _ _ (by omega) (by omega) (by omega) hP hD hS (lv_sub hl [1, 2, 3, 0] rfl)
      have kc16 : (0 : Int32).toInt = 0 := rfl
      exact L31 _ 0 mtxt _ _ _ (by omega) (by omega) (Nat.lt_succ_self _) hP hD hS (lv_sub hl [1, 2, 3, 0] rfl)
    · have dc4 : 160 < (mbyt.toInt) + (n.toInt) := nleC f3 (show (160 : Int32).toInt = 160 from rfl) c4
      refine lv_bipush (v := (-5)) hx hb dX10_write_25 (by decide) ?_
      exact W.iret (v := (-5)) hx hb hr (fun tq ht hW => ⟨⟨(-5), (uS [mtxt, (fun _ => mbyt)] 0 (fun _ => 0)), rfl, r_mbyt, by rw [ht]; exact hP, hD⟩, hS.F ht⟩) hS.2.2 dX10_write_27
  · refine lv_if_ne (tgt := 13) hx hb dX10_write_7 (by decide) (fun c9 => absurd (by decide) c9) (fun _ => ?_)
    refine lv_bipush (v := (-3)) hx hb dX10_write_10 (by decide) ?_
    exact W.iret (v := (-3)) hx hb hr (fun tq ht hW => ⟨⟨(-3), (uS [mtxt, (fun _ => mbyt)] 0 (fun _ => 0)), rfl, r_mbyt, by rw [ht]; exact hP, hD⟩, hS.F ht⟩) hS.2.2 dX10_write_12
set_option maxHeartbeats 4000000 in
set_option maxRecDepth 100000 in
theorem k_X10_erase (l : Launch) (dC : Nat → ClassId) (dI : Nat → Nat → Nat) (cI cZ cQ : ClassId) (b : Nat → Nat) (mday : Int32) (mdoo : Int32) (mdA : Nat → Int32) (mdB : Nat → Int32) (mfar : Nat → Int32) (mmar : Nat → Int32) (mtel : Int32) (mgai : Int32) (mfal : Nat → Int32) (mtop : Nat → Int32) (mstr : Nat → Int32) (mgho : Nat → Int32) (mfai : Nat → Int32) (mpto : Nat → Int32) (mwal : Nat → Int32) (mahd : Nat → Int32) (mahf : Nat → Int32) (mcho : Nat → Int32) (mbes : Nat → Int32) (mbyt : Int32) (mtxt : Nat → Int32) (mpos : Int32) (mtka : Int32) (mtok : Int64) (mdig : Int32) (mnum : Int32) (mfau : Int32) (mrdm : Int32) (mrea : Nat → Int32) (mlin : Int32) (mlne : Nat → Int32) (mthg : Nat → Int32) (mord : Nat → Int32) (mbor : Nat → Int32) (mbsm : Int32) (mans : Nat → Int32) (mand : Nat → Int32) (manr : Nat → Int32) (mali : Nat → Int32) (sz : Nat) (r_mday : 0 ≤ mday.toInt ∧ mday.toInt ≤ 400) (r_mdoo : 0 ≤ mdoo.toInt ∧ mdoo.toInt ≤ 14) (r_mdA : rg 14 (0) (7) mdA) (r_mdB : rg 14 (0) (7) mdB) (r_mmar : rg 24 (0) (255) mmar) (r_mgai : 0 ≤ mgai.toInt ∧ mgai.toInt ≤ 100) (r_mfal : rg 11 (0) (30) mfal) (r_mtop : rg 48 (-1) (23) mtop) (r_mstr : rg 48 (0) (100) mstr) (r_mgho : rg 48 (-1) (23) mgho) (r_mfai : rg 48 (0) (100) mfai) (r_mahd : rg 240 (0) (100) mahd) (r_mahf : rg 240 (0) (100) mahf) (r_mcho : rg 5 (-1) (9) mcho) (r_mbyt : 0 ≤ mbyt.toInt ∧ mbyt.toInt ≤ 160) (r_mpos : 0 ≤ mpos.toInt ∧ mpos.toInt ≤ 160) (r_mrdm : 0 ≤ mrdm.toInt ∧ mrdm.toInt ≤ 10) (r_mlin : 0 ≤ mlin.toInt ∧ mlin.toInt ≤ 10) (r_mthg : rg 8 (0) (31) mthg) (r_mord : rg 8 (-1) (8) mord) (r_mans : rg 4 (0) (12) mans) : KW l yX10_erase wsX10_erase { frames := 0, cells := 0, slots := 0, locals := 0 } (dC, dI) (TY cI cZ cQ) (wMod cI cZ cQ b mday mdoo mdA mdB mfar mmar mtel mgai mfal mtop mstr mgho mfai mpto mwal mahd mahf mcho mbes mbyt mtxt mpos mtka mtok mdig mnum mfau mrdm mrea mlin mlne mthg mord mbor mbsm mans mand manr mali) [.ref (b 39)] sz 0 0 (fun (r : Int32) (u : US) => (0 ≤ (u.1 0 0).toInt ∧ (u.1 0 0).toInt ≤ 160)) (fun u : US => (wMod cI cZ cQ b mday mdoo mdA mdB mfar mmar mtel mgai mfal mtop mstr mgho mfai mpto mwal mahd mahf mcho mbes (u.1 0 0) mtxt mpos mtka mtok mdig mnum mfau mrdm mrea mlin mlne mthg mord mbor mbsm mans mand manr mali)) := by
  refine Met.ofW (cc := cX10_erase) (maxL := 2) (ret := (some .int)) (by decide) rfl ?_
  intro p e s m args below meth c s₁ B hml hv
  obtain ⟨rfl, hsz, hP, hK, hD0, hN⟩ := hv
  have hx := B.exec
  have hb := B.bytes
  have hr := B.returns
  have hts := atoms_spec (ws := wsX10_erase) B.pre
  have hown : s.vm.findClass RX10 = some m.cls := findClass_of_methodNamed B.named
  have hlocks := B.notSynchronized
  have lf141 := hts (.fieldLink RX10 141 "PalaceOfRoomsModel" "bytes" "I") (by decide +kernel)
  have inX10 : ∀ w ∈ wsX100, w ∈ wsX10_erase := fun w h => List.mem_cons_of_mem _ (List.mem_append_right _ h)
  subst hsz
  have hD := hD0.self (sz := s.heap.size)
  generalize hAe : va_A (wMod cI cZ cQ b mday mdoo mdA mdB mfar mmar mtel mgai mfal mtop mstr mgho mfai mpto mwal mahd mahf mcho mbes mbyt mtxt mpos mtka mtok mdig mnum mfau mrdm mrea mlin mlne mthg mord mbor mbsm mans mand manr mali) s.heap.size = A at hD ⊢
  have hA : ∀ q : Nat, s.heap.size ≤ q → A q := fun q h => by rw [← hAe]; exact Or.inr h
  have hS : va_S A s.heap s.heap [] := va_S.rf
  have hl := lv_entry ([.ref (b 39)]) (n := 2) (Nat.le_of_ble_eq_true rfl)
  rw [lg_entry_eq]
  generalize (lg_sl ([.ref (b 39)]) ++ List.replicate (2 - (lg_sl ([.ref (b 39)])).length) Slot.unset).toArray = ls at hl ⊢
  have hl : lv_has ls 2 [(0, .ref (b 39))] := hl
  refine lv_aload_n hx hb dX10_erase_0 rfl (lv_at hl 0 rfl) ?_
  refine va_get (D := (dC, dI)) (ci := 10) (v := .int mbyt) (C := RX10) (T := TX10) (N := 39) hx hb hts inX10 hown hK hP 0 rfl rfl 19 (by decide) lf141 (fun _ h9 => h9) rfl dX10_erase_1 ?_
  refine lv_istore_n (lv' := [(1, .int mbyt), (0, .ref (b 39))]) hx hb dX10_erase_4 rfl hl (by decide) rfl (fun ls hl => ?_)
  refine lv_aload_n hx hb dX10_erase_5 rfl (lv_at hl 1 rfl) ?_
  refine lv_iconst (v := 0) hx hb dX10_erase_6 (by decide) ?_
  refine va_put (D := (dC, dI)) (ci := 10) (v := .int 0) (ty := .int) (C := RX10) (T := TX10) (N := 39) hx hb hts inX10 tyX10 tyX10_ok nmX10 hown hK hP hD hS 0 rfl rfl 19 (by decide) lf141 (fun _ h9 => h9) rfl (by decide +kernel) rfl rfl (Nat.le_of_ble_eq_true rfl) dX10_erase_7 (fun H locs hP hD hS => ?_)
  have g1 : 0 ≤ (0 : Int32).toInt ∧ (0 : Int32).toInt ≤ 160 := by rw [show (0 : Int32).toInt = 0 from (show (0 : Int32).toInt = 0 from rfl)]; exact ⟨by omega, by omega⟩
  have hP : va_P (dC, dI) vwCl (wMod cI cZ cQ b mday mdoo mdA mdB mfar mmar mtel mgai mfal mtop mstr mgho mfai mpto mwal mahd mahf mcho mbes 0 mtxt mpos mtka mtok mdig mnum mfau mrdm mrea mlin mlne mthg mord mbor mbsm mans mand manr mali) H := hP
  have hD : va_D A (wMod cI cZ cQ b mday mdoo mdA mdB mfar mmar mtel mgai mfal mtop mstr mgho mfai mpto mwal mahd mahf mcho mbes 0 mtxt mpos mtka mtok mdig mnum mfau mrdm mrea mlin mlne mthg mord mbor mbsm mans mand manr mali) := hD
  refine lv_iload_n hx hb dX10_erase_10 rfl (lv_at hl 0 rfl) ?_
  exact W.iret (v := mbyt) hx hb hr (fun tq ht hW => ⟨⟨mbyt, (uS [(fun _ => 0)] 0 (fun _ => 0)), rfl, g1, by rw [ht]; exact hP, hD⟩, hS.F ht⟩) hS.2.2 dX10_erase_11
