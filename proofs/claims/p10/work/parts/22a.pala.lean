theorem dX9_fall_30 : decode cX9_fall 30 = .ok (.iload_n 1, 1) := by decide +kernel
theorem dX9_fall_31 : decode cX9_fall 31 = .ok (.iaload, 1) := by decide +kernel
theorem dX9_fall_32 : decode cX9_fall 32 = .ok (.istore_n 3, 1) := by decide +kernel
theorem dX9_fall_33 : decode cX9_fall 33 = .ok (.aload_n 0, 1) := by decide +kernel
theorem dX9_fall_34 : decode cX9_fall 34 = .ok (.getfield 28, 3) := by decide +kernel
theorem dX9_fall_37 : decode cX9_fall 37 = .ok (.getfield 122, 3) := by decide +kernel
theorem dX9_fall_40 : decode cX9_fall 40 = .ok (.iload_n 1, 1) := by decide +kernel
theorem dX9_fall_41 : decode cX9_fall 41 = .ok (.iload_n 2, 1) := by decide +kernel
theorem dX9_fall_42 : decode cX9_fall 42 = .ok (.iastore, 1) := by decide +kernel
theorem dX9_fall_43 : decode cX9_fall 43 = .ok (.iload_n 3, 1) := by decide +kernel
theorem dX9_fall_44 : decode cX9_fall 44 = .ok (.ireturn, 1) := by decide +kernel
set_option maxRecDepth 20000 in
theorem ggX9_put_X9_isThing : GoodIn wsX9_put wsX9_isThing := goodIn_r _ [5, 6, 7, 4, 8] rfl (by decide +kernel)
set_option maxRecDepth 20000 in
theorem gX9_put_X9_isThing : GoodIn wsX9_put (va_wsS RX9 103 yX9_isThing wsX9_isThing) := goodIn_app (goodIn_of _ (by decide +kernel)) ggX9_put_X9_isThing
set_option maxRecDepth 20000 in
theorem ggX9_put_X9_isCorner : GoodIn wsX9_put wsX9_isCorner := goodIn_r _ [11, 6, 7, 4, 8] rfl (by decide +kernel)
set_option maxRecDepth 20000 in
theorem gX9_put_X9_isCorner : GoodIn wsX9_put (va_wsS RX9 125 yX9_isCorner wsX9_isCorner) := goodIn_app (goodIn_of _ (by decide +kernel)) ggX9_put_X9_isCorner
set_option maxRecDepth 20000 in
theorem ggX9_put_X1_cover : GoodIn wsX9_put wsX1_cover := goodIn_r _ [16, 17, 18, 19, 20, 21, 22, 23, 35, 36, 37, 38, 39, 40, 41, 42, 43, 44, 45, 46, 47] rfl (by decide +kernel)
set_option maxRecDepth 20000 in
theorem gX9_put_X1_cover : GoodIn wsX9_put (wsV RX9 134 RX1 yX1_cover wsX1_cover) := goodIn_app (goodIn_of _ (by decide +kernel)) ggX9_put_X1_cover
theorem dX9_put_0 : decode cX9_put 0 = .ok (.iload_n 1, 1) := by decide +kernel
theorem dX9_put_1 : decode cX9_put 1 = .ok (.invokestatic 103, 3) := by decide +kernel
theorem dX9_put_4 : decode cX9_put 4 = .ok (.ifCond .eq 10, 3) := by decide +kernel
theorem dX9_put_7 : decode cX9_put 7 = .ok (.iload_n 2, 1) := by decide +kernel
theorem dX9_put_8 : decode cX9_put 8 = .ok (.invokestatic 125, 3) := by decide +kernel
theorem dX9_put_11 : decode cX9_put 11 = .ok (.ifCond .ne 6, 3) := by decide +kernel
theorem dX9_put_14 : decode cX9_put 14 = .ok (.bipush (-2), 2) := by decide +kernel
theorem dX9_put_16 : decode cX9_put 16 = .ok (.ireturn, 1) := by decide +kernel
theorem dX9_put_17 : decode cX9_put 17 = .ok (.aload_n 0, 1) := by decide +kernel
theorem dX9_put_18 : decode cX9_put 18 = .ok (.getfield 28, 3) := by decide +kernel
theorem dX9_put_21 : decode cX9_put 21 = .ok (.getfield 128, 3) := by decide +kernel
theorem dX9_put_24 : decode cX9_put 24 = .ok (.iload_n 1, 1) := by decide +kernel
theorem dX9_put_25 : decode cX9_put 25 = .ok (.iaload, 1) := by decide +kernel
theorem dX9_put_26 : decode cX9_put 26 = .ok (.iconst (-1), 1) := by decide +kernel
theorem dX9_put_27 : decode cX9_put 27 = .ok (.if_icmp .eq 6, 3) := by decide +kernel
theorem dX9_put_30 : decode cX9_put 30 = .ok (.bipush (-4), 2) := by decide +kernel
theorem dX9_put_32 : decode cX9_put 32 = .ok (.ireturn, 1) := by decide +kernel
theorem dX9_put_33 : decode cX9_put 33 = .ok (.aload_n 0, 1) := by decide +kernel
theorem dX9_put_34 : decode cX9_put 34 = .ok (.getfield 28, 3) := by decide +kernel
theorem dX9_put_37 : decode cX9_put 37 = .ok (.getfield 131, 3) := by decide +kernel
theorem dX9_put_40 : decode cX9_put 40 = .ok (.iload_n 2, 1) := by decide +kernel
theorem dX9_put_41 : decode cX9_put 41 = .ok (.iaload, 1) := by decide +kernel
theorem dX9_put_42 : decode cX9_put 42 = .ok (.istore_n 3, 1) := by decide +kernel
theorem dX9_put_43 : decode cX9_put 43 = .ok (.aload_n 0, 1) := by decide +kernel
theorem dX9_put_44 : decode cX9_put 44 = .ok (.getfield 28, 3) := by decide +kernel
theorem dX9_put_47 : decode cX9_put 47 = .ok (.iload_n 2, 1) := by decide +kernel
theorem dX9_put_48 : decode cX9_put 48 = .ok (.iload_n 1, 1) := by decide +kernel
theorem dX9_put_49 : decode cX9_put 49 = .ok (.invokevirtual 134, 3) := by decide +kernel
theorem dX9_put_52 : decode cX9_put 52 = .ok (.iload_n 3, 1) := by decide +kernel
theorem dX9_put_53 : decode cX9_put 53 = .ok (.ireturn, 1) := by decide +kernel
set_option maxRecDepth 20000 in
theorem ggX9_clear_X9_isCorner : GoodIn wsX9_clear wsX9_isCorner := goodIn_r _ [5, 6, 7, 4, 8] rfl (by decide +kernel)
set_option maxRecDepth 20000 in
theorem gX9_clear_X9_isCorner : GoodIn wsX9_clear (va_wsS RX9 125 yX9_isCorner wsX9_isCorner) := goodIn_app (goodIn_of _ (by decide +kernel)) ggX9_clear_X9_isCorner
set_option maxRecDepth 20000 in
theorem ggX9_clear_X1_takeOff : GoodIn wsX9_clear wsX1_takeOff := goodIn_r _ [13, 14, 15, 16, 28, 29, 30, 31, 32, 33, 34, 35, 36, 37, 38, 39, 40] rfl (by decide +kernel)
set_option maxRecDepth 20000 in
theorem gX9_clear_X1_takeOff : GoodIn wsX9_clear (wsV RX9 137 RX1 yX1_takeOff wsX1_takeOff) := goodIn_app (goodIn_of _ (by decide +kernel)) ggX9_clear_X1_takeOff
theorem dX9_clear_0 : decode cX9_clear 0 = .ok (.iload_n 1, 1) := by decide +kernel
theorem dX9_clear_1 : decode cX9_clear 1 = .ok (.invokestatic 125, 3) := by decide +kernel
theorem dX9_clear_4 : decode cX9_clear 4 = .ok (.ifCond .ne 6, 3) := by decide +kernel
theorem dX9_clear_7 : decode cX9_clear 7 = .ok (.bipush (-2), 2) := by decide +kernel
theorem dX9_clear_9 : decode cX9_clear 9 = .ok (.ireturn, 1) := by decide +kernel
theorem dX9_clear_10 : decode cX9_clear 10 = .ok (.aload_n 0, 1) := by decide +kernel
theorem dX9_clear_11 : decode cX9_clear 11 = .ok (.getfield 28, 3) := by decide +kernel
theorem dX9_clear_14 : decode cX9_clear 14 = .ok (.getfield 131, 3) := by decide +kernel
theorem dX9_clear_17 : decode cX9_clear 17 = .ok (.iload_n 1, 1) := by decide +kernel
theorem dX9_clear_18 : decode cX9_clear 18 = .ok (.iaload, 1) := by decide +kernel
theorem dX9_clear_19 : decode cX9_clear 19 = .ok (.istore_n 2, 1) := by decide +kernel
theorem dX9_clear_20 : decode cX9_clear 20 = .ok (.iload_n 2, 1) := by decide +kernel
theorem dX9_clear_21 : decode cX9_clear 21 = .ok (.iconst (-1), 1) := by decide +kernel
theorem dX9_clear_22 : decode cX9_clear 22 = .ok (.if_icmp .ne 6, 3) := by decide +kernel
theorem dX9_clear_25 : decode cX9_clear 25 = .ok (.bipush (-4), 2) := by decide +kernel
theorem dX9_clear_27 : decode cX9_clear 27 = .ok (.ireturn, 1) := by decide +kernel
theorem dX9_clear_28 : decode cX9_clear 28 = .ok (.aload_n 0, 1) := by decide +kernel
theorem dX9_clear_29 : decode cX9_clear 29 = .ok (.getfield 28, 3) := by decide +kernel
theorem dX9_clear_32 : decode cX9_clear 32 = .ok (.iload_n 1, 1) := by decide +kernel
theorem dX9_clear_33 : decode cX9_clear 33 = .ok (.invokevirtual 137, 3) := by decide +kernel
theorem dX9_clear_36 : decode cX9_clear 36 = .ok (.iload_n 2, 1) := by decide +kernel
theorem dX9_clear_37 : decode cX9_clear 37 = .ok (.ireturn, 1) := by decide +kernel
set_option maxRecDepth 20000 in
theorem ggX9_corner_X9_isCorner : GoodIn wsX9_corner wsX9_isCorner := goodIn_r _ [5, 6, 7, 4, 8] rfl (by decide +kernel)
set_option maxRecDepth 20000 in
theorem gX9_corner_X9_isCorner : GoodIn wsX9_corner (va_wsS RX9 125 yX9_isCorner wsX9_isCorner) := goodIn_app (goodIn_of _ (by decide +kernel)) ggX9_corner_X9_isCorner
theorem dX9_corner_0 : decode cX9_corner 0 = .ok (.iload_n 1, 1) := by decide +kernel
theorem dX9_corner_1 : decode cX9_corner 1 = .ok (.invokestatic 125, 3) := by decide +kernel
theorem dX9_corner_4 : decode cX9_corner 4 = .ok (.ifCond .ne 6, 3) := by decide +kernel
theorem dX9_corner_7 : decode cX9_corner 7 = .ok (.bipush (-2), 2) := by decide +kernel
theorem dX9_corner_9 : decode cX9_corner 9 = .ok (.ireturn, 1) := by decide +kernel
theorem dX9_corner_10 : decode cX9_corner 10 = .ok (.iload_n 2, 1) := by decide +kernel
theorem dX9_corner_11 : decode cX9_corner 11 = .ok (.tableswitch 117 0 4 #[33, 43, 70, 80, 107], 33) := by decide +kernel
theorem dX9_corner_44 : decode cX9_corner 44 = .ok (.aload_n 0, 1) := by decide +kernel
theorem dX9_corner_45 : decode cX9_corner 45 = .ok (.getfield 28, 3) := by decide +kernel
theorem dX9_corner_48 : decode cX9_corner 48 = .ok (.getfield 131, 3) := by decide +kernel
theorem dX9_corner_51 : decode cX9_corner 51 = .ok (.iload_n 1, 1) := by decide +kernel
theorem dX9_corner_52 : decode cX9_corner 52 = .ok (.iaload, 1) := by decide +kernel
theorem dX9_corner_53 : decode cX9_corner 53 = .ok (.ireturn, 1) := by decide +kernel
theorem dX9_corner_54 : decode cX9_corner 54 = .ok (.aload_n 0, 1) := by decide +kernel
theorem dX9_corner_55 : decode cX9_corner 55 = .ok (.getfield 28, 3) := by decide +kernel
theorem dX9_corner_58 : decode cX9_corner 58 = .ok (.getfield 131, 3) := by decide +kernel
theorem dX9_corner_61 : decode cX9_corner 61 = .ok (.iload_n 1, 1) := by decide +kernel
theorem dX9_corner_62 : decode cX9_corner 62 = .ok (.iaload, 1) := by decide +kernel
theorem dX9_corner_63 : decode cX9_corner 63 = .ok (.iconst (-1), 1) := by decide +kernel
theorem dX9_corner_64 : decode cX9_corner 64 = .ok (.if_icmp .ne 7, 3) := by decide +kernel
theorem dX9_corner_67 : decode cX9_corner 67 = .ok (.iconst (-1), 1) := by decide +kernel
theorem dX9_corner_68 : decode cX9_corner 68 = .ok (.goto 12, 3) := by decide +kernel
theorem dX9_corner_71 : decode cX9_corner 71 = .ok (.aload_n 0, 1) := by decide +kernel
theorem dX9_corner_72 : decode cX9_corner 72 = .ok (.getfield 28, 3) := by decide +kernel
theorem dX9_corner_75 : decode cX9_corner 75 = .ok (.getfield 141, 3) := by decide +kernel
theorem dX9_corner_78 : decode cX9_corner 78 = .ok (.iload_n 1, 1) := by decide +kernel
theorem dX9_corner_79 : decode cX9_corner 79 = .ok (.iaload, 1) := by decide +kernel
theorem dX9_corner_80 : decode cX9_corner 80 = .ok (.ireturn, 1) := by decide +kernel
theorem dX9_corner_81 : decode cX9_corner 81 = .ok (.aload_n 0, 1) := by decide +kernel
theorem dX9_corner_82 : decode cX9_corner 82 = .ok (.getfield 28, 3) := by decide +kernel
theorem dX9_corner_85 : decode cX9_corner 85 = .ok (.getfield 144, 3) := by decide +kernel
theorem dX9_corner_88 : decode cX9_corner 88 = .ok (.iload_n 1, 1) := by decide +kernel
theorem dX9_corner_89 : decode cX9_corner 89 = .ok (.iaload, 1) := by decide +kernel
theorem dX9_corner_90 : decode cX9_corner 90 = .ok (.ireturn, 1) := by decide +kernel
theorem dX9_corner_91 : decode cX9_corner 91 = .ok (.aload_n 0, 1) := by decide +kernel
theorem dX9_corner_92 : decode cX9_corner 92 = .ok (.getfield 28, 3) := by decide +kernel
theorem dX9_corner_95 : decode cX9_corner 95 = .ok (.getfield 144, 3) := by decide +kernel
theorem dX9_corner_98 : decode cX9_corner 98 = .ok (.iload_n 1, 1) := by decide +kernel
theorem dX9_corner_99 : decode cX9_corner 99 = .ok (.iaload, 1) := by decide +kernel
theorem dX9_corner_100 : decode cX9_corner 100 = .ok (.iconst (-1), 1) := by decide +kernel
theorem dX9_corner_101 : decode cX9_corner 101 = .ok (.if_icmp .ne 7, 3) := by decide +kernel
theorem dX9_corner_104 : decode cX9_corner 104 = .ok (.iconst (-1), 1) := by decide +kernel
theorem dX9_corner_105 : decode cX9_corner 105 = .ok (.goto 12, 3) := by decide +kernel
theorem dX9_corner_108 : decode cX9_corner 108 = .ok (.aload_n 0, 1) := by decide +kernel
theorem dX9_corner_109 : decode cX9_corner 109 = .ok (.getfield 28, 3) := by decide +kernel
theorem dX9_corner_112 : decode cX9_corner 112 = .ok (.getfield 147, 3) := by decide +kernel
theorem dX9_corner_115 : decode cX9_corner 115 = .ok (.iload_n 1, 1) := by decide +kernel
theorem dX9_corner_116 : decode cX9_corner 116 = .ok (.iaload, 1) := by decide +kernel
theorem dX9_corner_117 : decode cX9_corner 117 = .ok (.ireturn, 1) := by decide +kernel
theorem dX9_corner_118 : decode cX9_corner 118 = .ok (.aload_n 0, 1) := by decide +kernel
theorem dX9_corner_119 : decode cX9_corner 119 = .ok (.getfield 28, 3) := by decide +kernel
theorem dX9_corner_122 : decode cX9_corner 122 = .ok (.getfield 150, 3) := by decide +kernel
theorem dX9_corner_125 : decode cX9_corner 125 = .ok (.iload_n 1, 1) := by decide +kernel
theorem dX9_corner_126 : decode cX9_corner 126 = .ok (.iaload, 1) := by decide +kernel
theorem dX9_corner_127 : decode cX9_corner 127 = .ok (.ireturn, 1) := by decide +kernel
theorem dX9_corner_128 : decode cX9_corner 128 = .ok (.bipush (-3), 2) := by decide +kernel
theorem dX9_corner_130 : decode cX9_corner 130 = .ok (.ireturn, 1) := by decide +kernel
set_option maxRecDepth 20000 in
theorem ggX9_where_X9_isThing : GoodIn wsX9_where wsX9_isThing := goodIn_r _ [5, 6, 7, 4, 8] rfl (by decide +kernel)
set_option maxRecDepth 20000 in
theorem gX9_where_X9_isThing : GoodIn wsX9_where (va_wsS RX9 103 yX9_isThing wsX9_isThing) := goodIn_app (goodIn_of _ (by decide +kernel)) ggX9_where_X9_isThing
theorem dX9_where_0 : decode cX9_where 0 = .ok (.iload_n 1, 1) := by decide +kernel
theorem dX9_where_1 : decode cX9_where 1 = .ok (.invokestatic 103, 3) := by decide +kernel
theorem dX9_where_4 : decode cX9_where 4 = .ok (.ifCond .eq 15, 3) := by decide +kernel
theorem dX9_where_7 : decode cX9_where 7 = .ok (.aload_n 0, 1) := by decide +kernel
theorem dX9_where_8 : decode cX9_where 8 = .ok (.getfield 28, 3) := by decide +kernel
theorem dX9_where_11 : decode cX9_where 11 = .ok (.getfield 128, 3) := by decide +kernel
theorem dX9_where_14 : decode cX9_where 14 = .ok (.iload_n 1, 1) := by decide +kernel
theorem dX9_where_15 : decode cX9_where 15 = .ok (.iaload, 1) := by decide +kernel
theorem dX9_where_16 : decode cX9_where 16 = .ok (.goto 5, 3) := by decide +kernel
theorem dX9_where_19 : decode cX9_where 19 = .ok (.bipush (-2), 2) := by decide +kernel
theorem dX9_where_21 : decode cX9_where 21 = .ok (.ireturn, 1) := by decide +kernel
set_option maxRecDepth 20000 in
theorem ggX9_days_X9_within : GoodIn wsX9_days wsX9_within := goodIn_r _ [5] rfl (by decide +kernel)
set_option maxRecDepth 20000 in
theorem gX9_days_X9_within : GoodIn wsX9_days (va_wsS RX9 106 yX9_within wsX9_within) := goodIn_app (goodIn_of _ (by decide +kernel)) ggX9_days_X9_within
set_option maxRecDepth 20000 in
theorem ggX9_days_X1_passDays : GoodIn wsX9_days wsX1_passDays := goodIn_r _ [10, 11, 12, 13, 14, 15, 16, 9, 17, 18, 19, 20, 21, 22, 23, 24, 25, 26, 27, 28, 29, 30, 31, 32, 33, 34, 35, 36, 37, 38, 39, 40, 41, 42, 43, 44, 45, 46, 47, 48, 49, 50, 51, 52, 53, 54, 55, 56, 57, 58, 59, 60, 61, 62, 63, 64, 65, 77, 78, 79, 80, 81, 82, 83, 84, 85, 86, 87, 88, 89, 90] rfl (by decide +kernel)
set_option maxRecDepth 20000 in
theorem gX9_days_X1_passDays : GoodIn wsX9_days (wsV RX9 156 RX1 yX1_passDays wsX1_passDays) := goodIn_app (goodIn_of _ (by decide +kernel)) ggX9_days_X1_passDays
theorem dX9_days_0 : decode cX9_days 0 = .ok (.iload_n 1, 1) := by decide +kernel
theorem dX9_days_1 : decode cX9_days 1 = .ok (.iconst 1, 1) := by decide +kernel
theorem dX9_days_2 : decode cX9_days 2 = .ok (.bipush 60, 2) := by decide +kernel
theorem dX9_days_4 : decode cX9_days 4 = .ok (.invokestatic 106, 3) := by decide +kernel
theorem dX9_days_7 : decode cX9_days 7 = .ok (.ifCond .eq 18, 3) := by decide +kernel
theorem dX9_days_10 : decode cX9_days 10 = .ok (.aload_n 0, 1) := by decide +kernel
theorem dX9_days_11 : decode cX9_days 11 = .ok (.getfield 28, 3) := by decide +kernel
theorem dX9_days_14 : decode cX9_days 14 = .ok (.getfield 153, 3) := by decide +kernel
theorem dX9_days_17 : decode cX9_days 17 = .ok (.iload_n 1, 1) := by decide +kernel
theorem dX9_days_18 : decode cX9_days 18 = .ok (.iadd, 1) := by decide +kernel
theorem dX9_days_19 : decode cX9_days 19 = .ok (.sipush 400, 3) := by decide +kernel
theorem dX9_days_22 : decode cX9_days 22 = .ok (.if_icmp .le 6, 3) := by decide +kernel
theorem dX9_days_25 : decode cX9_days 25 = .ok (.bipush (-3), 2) := by decide +kernel
theorem dX9_days_27 : decode cX9_days 27 = .ok (.ireturn, 1) := by decide +kernel
theorem dX9_days_28 : decode cX9_days 28 = .ok (.aload_n 0, 1) := by decide +kernel
theorem dX9_days_29 : decode cX9_days 29 = .ok (.getfield 28, 3) := by decide +kernel
theorem dX9_days_32 : decode cX9_days 32 = .ok (.iload_n 1, 1) := by decide +kernel
theorem dX9_days_33 : decode cX9_days 33 = .ok (.invokevirtual 156, 3) := by decide +kernel
theorem dX9_days_36 : decode cX9_days 36 = .ok (.aload_n 0, 1) := by decide +kernel
theorem dX9_days_37 : decode cX9_days 37 = .ok (.getfield 28, 3) := by decide +kernel
theorem dX9_days_40 : decode cX9_days 40 = .ok (.getfield 153, 3) := by decide +kernel
theorem dX9_days_43 : decode cX9_days 43 = .ok (.ireturn, 1) := by decide +kernel
set_option maxRecDepth 20000 in
theorem ggX9_walk_X9_isRoom : GoodIn wsX9_walk wsX9_isRoom := goodIn_r _ [5, 6, 7, 4, 8] rfl (by decide +kernel)
set_option maxRecDepth 20000 in
theorem gX9_walk_X9_isRoom : GoodIn wsX9_walk (va_wsS RX9 83 yX9_isRoom wsX9_isRoom) := goodIn_app (goodIn_of _ (by decide +kernel)) ggX9_walk_X9_isRoom
set_option maxRecDepth 20000 in
theorem ggX9_walk_X1_walkPast : GoodIn wsX9_walk wsX1_walkPast := goodIn_r _ [13, 14, 15, 16, 17, 18, 19, 20, 12, 21, 22, 34, 35, 36, 37, 38, 39, 40, 41, 42, 43, 44, 45, 46] rfl (by decide +kernel)
set_option maxRecDepth 20000 in
theorem gX9_walk_X1_walkPast : GoodIn wsX9_walk (wsV RX9 159 RX1 yX1_walkPast wsX1_walkPast) := goodIn_app (goodIn_of _ (by decide +kernel)) ggX9_walk_X1_walkPast
theorem dX9_walk_0 : decode cX9_walk 0 = .ok (.iload_n 1, 1) := by decide +kernel
theorem dX9_walk_1 : decode cX9_walk 1 = .ok (.invokestatic 83, 3) := by decide +kernel
theorem dX9_walk_4 : decode cX9_walk 4 = .ok (.ifCond .eq 14, 3) := by decide +kernel
theorem dX9_walk_7 : decode cX9_walk 7 = .ok (.aload_n 0, 1) := by decide +kernel
theorem dX9_walk_8 : decode cX9_walk 8 = .ok (.getfield 28, 3) := by decide +kernel
theorem dX9_walk_11 : decode cX9_walk 11 = .ok (.iload_n 1, 1) := by decide +kernel
theorem dX9_walk_12 : decode cX9_walk 12 = .ok (.invokevirtual 159, 3) := by decide +kernel
theorem dX9_walk_15 : decode cX9_walk 15 = .ok (.goto 5, 3) := by decide +kernel
theorem dX9_walk_18 : decode cX9_walk 18 = .ok (.bipush (-2), 2) := by decide +kernel
theorem dX9_walk_20 : decode cX9_walk 20 = .ok (.ireturn, 1) := by decide +kernel
set_option maxRecDepth 20000 in
theorem ggX9_write_X9_within : GoodIn wsX9_write wsX9_within := goodIn_r _ [5] rfl (by decide +kernel)
set_option maxRecDepth 20000 in
theorem gX9_write_X9_within : GoodIn wsX9_write (va_wsS RX9 106 yX9_within wsX9_within) := goodIn_app (goodIn_of _ (by decide +kernel)) ggX9_write_X9_within
set_option maxRecDepth 20000 in
theorem ggX9_write_X7_append : GoodIn wsX9_write wsX7_append := goodIn_r _ [10, 11, 12, 13, 25, 26, 27, 28] rfl (by decide +kernel)
set_option maxRecDepth 20000 in
theorem gX9_write_X7_append : GoodIn wsX9_write (wsV RX9 166 RX7 yX7_append wsX7_append) := goodIn_app (goodIn_of _ (by decide +kernel)) ggX9_write_X7_append
theorem dX9_write_0 : decode cX9_write 0 = .ok (.iload_n 3, 1) := by decide +kernel
theorem dX9_write_1 : decode cX9_write 1 = .ok (.iconst 1, 1) := by decide +kernel
theorem dX9_write_2 : decode cX9_write 2 = .ok (.bipush 8, 2) := by decide +kernel
theorem dX9_write_4 : decode cX9_write 4 = .ok (.invokestatic 106, 3) := by decide +kernel
theorem dX9_write_7 : decode cX9_write 7 = .ok (.ifCond .ne 6, 3) := by decide +kernel
theorem dX9_write_10 : decode cX9_write 10 = .ok (.bipush (-3), 2) := by decide +kernel
theorem dX9_write_12 : decode cX9_write 12 = .ok (.ireturn, 1) := by decide +kernel
theorem dX9_write_13 : decode cX9_write 13 = .ok (.aload_n 0, 1) := by decide +kernel
theorem dX9_write_14 : decode cX9_write 14 = .ok (.getfield 35, 3) := by decide +kernel
theorem dX9_write_17 : decode cX9_write 17 = .ok (.getfield 163, 3) := by decide +kernel
theorem dX9_write_20 : decode cX9_write 20 = .ok (.iload_n 3, 1) := by decide +kernel
theorem dX9_write_21 : decode cX9_write 21 = .ok (.iadd, 1) := by decide +kernel
theorem dX9_write_22 : decode cX9_write 22 = .ok (.sipush 160, 3) := by decide +kernel
theorem dX9_write_25 : decode cX9_write 25 = .ok (.if_icmp .le 6, 3) := by decide +kernel
theorem dX9_write_28 : decode cX9_write 28 = .ok (.bipush (-5), 2) := by decide +kernel
theorem dX9_write_30 : decode cX9_write 30 = .ok (.ireturn, 1) := by decide +kernel
theorem dX9_write_31 : decode cX9_write 31 = .ok (.aload_n 0, 1) := by decide +kernel
theorem dX9_write_32 : decode cX9_write 32 = .ok (.getfield 35, 3) := by decide +kernel
theorem dX9_write_35 : decode cX9_write 35 = .ok (.lload_n 1, 1) := by decide +kernel
theorem dX9_write_36 : decode cX9_write 36 = .ok (.iload_n 3, 1) := by decide +kernel
theorem dX9_write_37 : decode cX9_write 37 = .ok (.invokevirtual 166, 3) := by decide +kernel
theorem dX9_write_40 : decode cX9_write 40 = .ok (.aload_n 0, 1) := by decide +kernel
theorem dX9_write_41 : decode cX9_write 41 = .ok (.getfield 35, 3) := by decide +kernel
theorem dX9_write_44 : decode cX9_write 44 = .ok (.getfield 163, 3) := by decide +kernel
theorem dX9_write_47 : decode cX9_write 47 = .ok (.ireturn, 1) := by decide +kernel
theorem dX9_erase_0 : decode cX9_erase 0 = .ok (.aload_n 0, 1) := by decide +kernel
theorem dX9_erase_1 : decode cX9_erase 1 = .ok (.getfield 35, 3) := by decide +kernel
theorem dX9_erase_4 : decode cX9_erase 4 = .ok (.getfield 163, 3) := by decide +kernel
theorem dX9_erase_7 : decode cX9_erase 7 = .ok (.istore_n 1, 1) := by decide +kernel
theorem dX9_erase_8 : decode cX9_erase 8 = .ok (.aload_n 0, 1) := by decide +kernel
theorem dX9_erase_9 : decode cX9_erase 9 = .ok (.getfield 35, 3) := by decide +kernel
theorem dX9_erase_12 : decode cX9_erase 12 = .ok (.iconst 0, 1) := by decide +kernel
theorem dX9_erase_13 : decode cX9_erase 13 = .ok (.putfield 163, 3) := by decide +kernel
theorem dX9_erase_16 : decode cX9_erase 16 = .ok (.iload_n 1, 1) := by decide +kernel
theorem dX9_erase_17 : decode cX9_erase 17 = .ok (.ireturn, 1) := by decide +kernel
set_option maxRecDepth 20000 in
theorem ggX9_fault_X7_readInto : GoodIn wsX9_fault wsX7_readInto := goodIn_r _ [7, 8, 9, 10, 11, 12, 13, 14, 15, 16, 17, 18, 19, 20, 21, 22, 23, 24, 25, 26, 27, 28, 6, 29, 30, 31, 32, 33, 34, 35, 36, 37, 38, 39, 40, 41, 42, 43, 44, 45, 46, 47, 48, 49, 50, 51, 52, 53, 54, 55, 56, 57, 58, 59, 60, 61, 62, 63, 64, 65, 66, 67, 68, 69, 70, 71, 72, 73, 74, 75, 76, 77, 78, 79, 80, 81, 82, 83, 84, 85, 86, 87, 88, 89, 90, 91, 92, 93, 94, 95, 96, 97, 98, 99, 100, 101, 102, 103, 104, 116, 117, 118, 119, 120, 121, 122, 123, 124] rfl (by decide +kernel)
set_option maxRecDepth 20000 in
theorem gX9_fault_X7_readInto : GoodIn wsX9_fault (wsV RX9 170 RX7 yX7_readInto wsX7_readInto) := goodIn_app (goodIn_of _ (by decide +kernel)) ggX9_fault_X7_readInto
theorem dX9_fault_0 : decode cX9_fault 0 = .ok (.aload_n 0, 1) := by decide +kernel
theorem dX9_fault_1 : decode cX9_fault 1 = .ok (.getfield 35, 3) := by decide +kernel
theorem dX9_fault_4 : decode cX9_fault 4 = .ok (.aload_n 0, 1) := by decide +kernel
theorem dX9_fault_5 : decode cX9_fault 5 = .ok (.getfield 80, 3) := by decide +kernel
theorem dX9_fault_8 : decode cX9_fault 8 = .ok (.invokevirtual 170, 3) := by decide +kernel
theorem dX9_fault_11 : decode cX9_fault 11 = .ok (.ireturn, 1) := by decide +kernel
set_option maxRecDepth 20000 in
theorem ggX9_rules_X7_readInto : GoodIn wsX9_rules wsX7_readInto := goodIn_r _ [8, 9, 10, 11, 12, 13, 14, 15, 16, 17, 18, 19, 20, 21, 22, 23, 24, 25, 26, 27, 28, 29, 7, 30, 31, 32, 33, 34, 35, 36, 37, 38, 39, 40, 41, 42, 43, 44, 45, 46, 47, 48, 49, 50, 51, 52, 53, 54, 55, 56, 57, 58, 59, 60, 61, 62, 63, 64, 65, 66, 67, 68, 69, 70, 71, 72, 73, 74, 75, 76, 77, 78, 79, 80, 81, 82, 83, 84, 85, 86, 87, 88, 89, 90, 91, 92, 93, 94, 95, 96, 97, 98, 99, 100, 101, 102, 103, 104, 105, 117, 118, 119, 120, 121, 122, 123, 124, 125] rfl (by decide +kernel)
set_option maxRecDepth 20000 in
theorem gX9_rules_X7_readInto : GoodIn wsX9_rules (wsV RX9 170 RX7 yX7_readInto wsX7_readInto) := goodIn_app (goodIn_of _ (by decide +kernel)) ggX9_rules_X7_readInto
theorem dX9_rules_0 : decode cX9_rules 0 = .ok (.aload_n 0, 1) := by decide +kernel
theorem dX9_rules_1 : decode cX9_rules 1 = .ok (.getfield 35, 3) := by decide +kernel
theorem dX9_rules_4 : decode cX9_rules 4 = .ok (.aload_n 0, 1) := by decide +kernel
theorem dX9_rules_5 : decode cX9_rules 5 = .ok (.getfield 80, 3) := by decide +kernel
theorem dX9_rules_8 : decode cX9_rules 8 = .ok (.invokevirtual 170, 3) := by decide +kernel
theorem dX9_rules_11 : decode cX9_rules 11 = .ok (.iconst (-1), 1) := by decide +kernel
theorem dX9_rules_12 : decode cX9_rules 12 = .ok (.if_icmp .eq 6, 3) := by decide +kernel
theorem dX9_rules_15 : decode cX9_rules 15 = .ok (.bipush (-4), 2) := by decide +kernel
theorem dX9_rules_17 : decode cX9_rules 17 = .ok (.ireturn, 1) := by decide +kernel
theorem dX9_rules_18 : decode cX9_rules 18 = .ok (.aload_n 0, 1) := by decide +kernel
theorem dX9_rules_19 : decode cX9_rules 19 = .ok (.getfield 80, 3) := by decide +kernel
theorem dX9_rules_22 : decode cX9_rules 22 = .ok (.astore_n 1, 1) := by decide +kernel
theorem dX9_rules_23 : decode cX9_rules 23 = .ok (.aload_n 0, 1) := by decide +kernel
