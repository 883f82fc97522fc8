set_option maxRecDepth 20000 in
theorem ggX10_costOf_X10_doorsTo : GoodIn wsX10_costOf wsX10_doorsTo := goodIn_r _ [5, 6, 7, 8, 9, 15, 16, 17, 18, 19, 20, 21, 22, 23, 24, 25, 26, 27, 28, 29, 30, 31, 32, 33, 34, 35, 36, 37, 38, 39, 40, 41, 42, 43, 44, 45, 46, 47, 48, 49, 50, 51, 52, 53] (by decide +kernel) (by decide +kernel)
set_option maxRecDepth 20000 in
theorem gX10_costOf_X10_doorsTo : GoodIn wsX10_costOf (wsV RX10 108 RX10 yX10_doorsTo wsX10_doorsTo) := goodIn_app (goodIn_of _ (by decide +kernel)) ggX10_costOf_X10_doorsTo
set_option maxRecDepth 20000 in
theorem ggX10_costOf_X10_standIn : GoodIn wsX10_costOf wsX10_standIn := goodIn_r _ [13, 14, 15, 16, 17, 18, 19, 20, 21, 22, 23, 24, 25, 26, 27, 28, 29, 30, 31, 32, 33, 34, 35, 36, 37, 38, 39, 40, 41, 42, 43, 44, 45, 46, 47, 48, 49, 50, 51, 52, 53] (by decide +kernel) (by decide +kernel)
set_option maxRecDepth 20000 in
theorem gX10_costOf_X10_standIn : GoodIn wsX10_costOf (wsV RX10 213 RX10 yX10_standIn wsX10_standIn) := goodIn_app (goodIn_of _ (by decide +kernel)) ggX10_costOf_X10_standIn
theorem dX10_costOf_0 : decode cX10_costOf 0 = .ok (.aload_n 0, 1) := by decide +kernel
theorem dX10_costOf_1 : decode cX10_costOf 1 = .ok (.iconst 0, 1) := by decide +kernel
theorem dX10_costOf_2 : decode cX10_costOf 2 = .ok (.iload_n 1, 1) := by decide +kernel
theorem dX10_costOf_3 : decode cX10_costOf 3 = .ok (.invokevirtual 108, 3) := by decide +kernel
theorem dX10_costOf_6 : decode cX10_costOf 6 = .ok (.istore_n 2, 1) := by decide +kernel
theorem dX10_costOf_7 : decode cX10_costOf 7 = .ok (.iload_n 2, 1) := by decide +kernel
theorem dX10_costOf_8 : decode cX10_costOf 8 = .ok (.iconst (-1), 1) := by decide +kernel
theorem dX10_costOf_9 : decode cX10_costOf 9 = .ok (.if_icmp .ne 7, 3) := by decide +kernel
theorem dX10_costOf_12 : decode cX10_costOf 12 = .ok (.iconst (-1), 1) := by decide +kernel
theorem dX10_costOf_13 : decode cX10_costOf 13 = .ok (.goto 12, 3) := by decide +kernel
theorem dX10_costOf_16 : decode cX10_costOf 16 = .ok (.iconst 2, 1) := by decide +kernel
theorem dX10_costOf_17 : decode cX10_costOf 17 = .ok (.iload_n 2, 1) := by decide +kernel
theorem dX10_costOf_18 : decode cX10_costOf 18 = .ok (.imul, 1) := by decide +kernel
theorem dX10_costOf_19 : decode cX10_costOf 19 = .ok (.aload_n 0, 1) := by decide +kernel
theorem dX10_costOf_20 : decode cX10_costOf 20 = .ok (.iload_n 1, 1) := by decide +kernel
theorem dX10_costOf_21 : decode cX10_costOf 21 = .ok (.invokevirtual 213, 3) := by decide +kernel
theorem dX10_costOf_24 : decode cX10_costOf 24 = .ok (.iadd, 1) := by decide +kernel
theorem dX10_costOf_25 : decode cX10_costOf 25 = .ok (.ireturn, 1) := by decide +kernel
set_option maxRecDepth 20000 in
theorem ggX10_cost_X10_isRoom : GoodIn wsX10_cost wsX10_isRoom := goodIn_r _ [4, 5, 6, 3, 7] (by decide +kernel) (by decide +kernel)
set_option maxRecDepth 20000 in
theorem gX10_cost_X10_isRoom : GoodIn wsX10_cost (va_wsS RX10 100 yX10_isRoom wsX10_isRoom) := goodIn_app (goodIn_of _ (by decide +kernel)) ggX10_cost_X10_isRoom
set_option maxRecDepth 20000 in
theorem ggX10_cost_X10_costOf : GoodIn wsX10_cost wsX10_costOf := goodIn_r _ [11, 12, 13, 14, 3, 15, 16, 17, 18, 19, 20, 21, 22, 23, 24, 25, 26, 27, 28, 29, 30, 31, 32, 33, 34, 35, 36, 37, 38, 39, 40, 41, 42, 43, 44, 45, 46, 47, 48, 49, 50, 51, 52, 53, 54, 55, 56, 57, 58, 59, 60, 61, 62, 63] (by decide +kernel) (by decide +kernel)
set_option maxRecDepth 20000 in
theorem gX10_cost_X10_costOf : GoodIn wsX10_cost (wsV RX10 242 RX10 yX10_costOf wsX10_costOf) := goodIn_app (goodIn_of _ (by decide +kernel)) ggX10_cost_X10_costOf
theorem dX10_cost_0 : decode cX10_cost 0 = .ok (.iload_n 1, 1) := by decide +kernel
theorem dX10_cost_1 : decode cX10_cost 1 = .ok (.invokestatic 100, 3) := by decide +kernel
theorem dX10_cost_4 : decode cX10_cost 4 = .ok (.ifCond .eq 11, 3) := by decide +kernel
theorem dX10_cost_7 : decode cX10_cost 7 = .ok (.aload_n 0, 1) := by decide +kernel
theorem dX10_cost_8 : decode cX10_cost 8 = .ok (.iload_n 1, 1) := by decide +kernel
theorem dX10_cost_9 : decode cX10_cost 9 = .ok (.invokevirtual 242, 3) := by decide +kernel
theorem dX10_cost_12 : decode cX10_cost 12 = .ok (.goto 5, 3) := by decide +kernel
theorem dX10_cost_15 : decode cX10_cost 15 = .ok (.bipush (-2), 2) := by decide +kernel
theorem dX10_cost_17 : decode cX10_cost 17 = .ok (.ireturn, 1) := by decide +kernel
set_option maxRecDepth 20000 in
theorem ggX10_areMinutes_X10_in : GoodIn wsX10_areMinutes wsX10_in := goodIn_r _ [4] (by decide +kernel) (by decide +kernel)
set_option maxRecDepth 20000 in
theorem gX10_areMinutes_X10_in : GoodIn wsX10_areMinutes (va_wsS RX10 93 yX10_in wsX10_in) := goodIn_app (goodIn_of _ (by decide +kernel)) ggX10_areMinutes_X10_in
theorem dX10_areMinutes_0 : decode cX10_areMinutes 0 = .ok (.iload_n 0, 1) := by decide +kernel
theorem dX10_areMinutes_1 : decode cX10_areMinutes 1 = .ok (.iconst 1, 1) := by decide +kernel
theorem dX10_areMinutes_2 : decode cX10_areMinutes 2 = .ok (.iconst 4, 1) := by decide +kernel
theorem dX10_areMinutes_3 : decode cX10_areMinutes 3 = .ok (.invokestatic 93, 3) := by decide +kernel
theorem dX10_areMinutes_6 : decode cX10_areMinutes 6 = .ok (.istore_n 2, 1) := by decide +kernel
theorem dX10_areMinutes_7 : decode cX10_areMinutes 7 = .ok (.iconst 0, 1) := by decide +kernel
theorem dX10_areMinutes_8 : decode cX10_areMinutes 8 = .ok (.istore_n 3, 1) := by decide +kernel
theorem dX10_areMinutes_9 : decode cX10_areMinutes 9 = .ok (.iload_n 3, 1) := by decide +kernel
theorem dX10_areMinutes_10 : decode cX10_areMinutes 10 = .ok (.iload_n 0, 1) := by decide +kernel
theorem dX10_areMinutes_11 : decode cX10_areMinutes 11 = .ok (.if_icmp .ge 33, 3) := by decide +kernel
theorem dX10_areMinutes_14 : decode cX10_areMinutes 14 = .ok (.iload_n 2, 1) := by decide +kernel
theorem dX10_areMinutes_15 : decode cX10_areMinutes 15 = .ok (.ifCond .eq 29, 3) := by decide +kernel
theorem dX10_areMinutes_18 : decode cX10_areMinutes 18 = .ok (.iload_n 1, 1) := by decide +kernel
theorem dX10_areMinutes_19 : decode cX10_areMinutes 19 = .ok (.bipush 7, 2) := by decide +kernel
theorem dX10_areMinutes_21 : decode cX10_areMinutes 21 = .ok (.iload_n 3, 1) := by decide +kernel
theorem dX10_areMinutes_22 : decode cX10_areMinutes 22 = .ok (.imul, 1) := by decide +kernel
theorem dX10_areMinutes_23 : decode cX10_areMinutes 23 = .ok (.ishr, 1) := by decide +kernel
theorem dX10_areMinutes_24 : decode cX10_areMinutes 24 = .ok (.bipush 127, 2) := by decide +kernel
theorem dX10_areMinutes_26 : decode cX10_areMinutes 26 = .ok (.iand, 1) := by decide +kernel
theorem dX10_areMinutes_27 : decode cX10_areMinutes 27 = .ok (.bipush 100, 2) := by decide +kernel
theorem dX10_areMinutes_29 : decode cX10_areMinutes 29 = .ok (.if_icmp .ge 7, 3) := by decide +kernel
theorem dX10_areMinutes_32 : decode cX10_areMinutes 32 = .ok (.iconst 1, 1) := by decide +kernel
theorem dX10_areMinutes_33 : decode cX10_areMinutes 33 = .ok (.goto 4, 3) := by decide +kernel
theorem dX10_areMinutes_36 : decode cX10_areMinutes 36 = .ok (.iconst 0, 1) := by decide +kernel
theorem dX10_areMinutes_37 : decode cX10_areMinutes 37 = .ok (.istore_n 2, 1) := by decide +kernel
theorem dX10_areMinutes_38 : decode cX10_areMinutes 38 = .ok (.iinc 3 1, 3) := by decide +kernel
theorem dX10_areMinutes_41 : decode cX10_areMinutes 41 = .ok (.goto (-32), 3) := by decide +kernel
theorem dX10_areMinutes_44 : decode cX10_areMinutes 44 = .ok (.iload_n 2, 1) := by decide +kernel
theorem dX10_areMinutes_45 : decode cX10_areMinutes 45 = .ok (.ireturn, 1) := by decide +kernel
set_option maxRecDepth 20000 in
theorem ggX10_isGone_X10_costOf : GoodIn wsX10_isGone wsX10_costOf := goodIn_r _ [7, 8, 9, 10, 6, 11, 12, 13, 14, 15, 16, 17, 18, 19, 20, 41, 42, 43, 44, 45, 46, 47, 48, 49, 50, 51, 52, 53, 54, 55, 56, 57, 58, 59, 60, 61, 62, 63, 64, 65, 66, 67, 68, 69, 70, 71, 72, 73, 74, 75, 76, 77, 78, 79] (by decide +kernel) (by decide +kernel)
set_option maxRecDepth 20000 in
theorem gX10_isGone_X10_costOf : GoodIn wsX10_isGone (wsV RX10 242 RX10 yX10_costOf wsX10_costOf) := goodIn_app (goodIn_of _ (by decide +kernel)) ggX10_isGone_X10_costOf
set_option maxRecDepth 20000 in
theorem ggX10_isGone_X10_goWalk : GoodIn wsX10_isGone wsX10_goWalk := goodIn_r _ [24, 20, 1, 25, 41, 42, 43, 44, 45, 46, 47, 48, 49, 50, 51, 52, 53, 54, 55, 56, 57, 58, 59, 60, 61, 62, 63, 64, 65, 66, 67, 68, 69, 70, 71, 72, 73, 74, 75, 76, 77, 78, 79] (by decide +kernel) (by decide +kernel)
set_option maxRecDepth 20000 in
theorem gX10_isGone_X10_goWalk : GoodIn wsX10_isGone (wsV RX10 138 RX10 yX10_goWalk wsX10_goWalk) := goodIn_app (goodIn_of _ (by decide +kernel)) ggX10_isGone_X10_goWalk
set_option maxRecDepth 20000 in
theorem ggX10_isGone_X10_goDay : GoodIn wsX10_isGone wsX10_goDay := goodIn_r _ [29, 1, 2, 20, 30, 31, 32, 33, 6, 34, 35, 36, 37, 38, 39, 40, 41, 42, 43, 44, 45, 46, 47, 48, 49, 50, 51, 52, 53, 54, 55, 56, 57, 58, 59, 60, 61, 62, 63, 64, 65, 66, 67, 68, 69, 70, 71, 72, 73, 74, 75, 76, 77, 78, 79] (by decide +kernel) (by decide +kernel)
set_option maxRecDepth 20000 in
theorem gX10_isGone_X10_goDay : GoodIn wsX10_isGone (wsV RX10 134 RX10 yX10_goDay wsX10_goDay) := goodIn_app (goodIn_of _ (by decide +kernel)) ggX10_isGone_X10_goDay
theorem dX10_isGone_0 : decode cX10_isGone 0 = .ok (.iconst 0, 1) := by decide +kernel
theorem dX10_isGone_1 : decode cX10_isGone 1 = .ok (.istore 4, 2) := by decide +kernel
theorem dX10_isGone_3 : decode cX10_isGone 3 = .ok (.iload 4, 2) := by decide +kernel
theorem dX10_isGone_5 : decode cX10_isGone 5 = .ok (.bipush 48, 2) := by decide +kernel
theorem dX10_isGone_7 : decode cX10_isGone 7 = .ok (.if_icmp .ge 63, 3) := by decide +kernel
theorem dX10_isGone_10 : decode cX10_isGone 10 = .ok (.aload_n 0, 1) := by decide +kernel
theorem dX10_isGone_11 : decode cX10_isGone 11 = .ok (.getfield 50, 3) := by decide +kernel
theorem dX10_isGone_14 : decode cX10_isGone 14 = .ok (.bipush 48, 2) := by decide +kernel
theorem dX10_isGone_16 : decode cX10_isGone 16 = .ok (.iload_n 1, 1) := by decide +kernel
theorem dX10_isGone_17 : decode cX10_isGone 17 = .ok (.imul, 1) := by decide +kernel
theorem dX10_isGone_18 : decode cX10_isGone 18 = .ok (.bipush 48, 2) := by decide +kernel
theorem dX10_isGone_20 : decode cX10_isGone 20 = .ok (.iadd, 1) := by decide +kernel
theorem dX10_isGone_21 : decode cX10_isGone 21 = .ok (.iload 4, 2) := by decide +kernel
theorem dX10_isGone_23 : decode cX10_isGone 23 = .ok (.iadd, 1) := by decide +kernel
theorem dX10_isGone_24 : decode cX10_isGone 24 = .ok (.aload_n 0, 1) := by decide +kernel
theorem dX10_isGone_25 : decode cX10_isGone 25 = .ok (.getfield 50, 3) := by decide +kernel
theorem dX10_isGone_28 : decode cX10_isGone 28 = .ok (.bipush 48, 2) := by decide +kernel
theorem dX10_isGone_30 : decode cX10_isGone 30 = .ok (.iload_n 1, 1) := by decide +kernel
theorem dX10_isGone_31 : decode cX10_isGone 31 = .ok (.imul, 1) := by decide +kernel
theorem dX10_isGone_32 : decode cX10_isGone 32 = .ok (.iload 4, 2) := by decide +kernel
theorem dX10_isGone_34 : decode cX10_isGone 34 = .ok (.iadd, 1) := by decide +kernel
theorem dX10_isGone_35 : decode cX10_isGone 35 = .ok (.iaload, 1) := by decide +kernel
theorem dX10_isGone_36 : decode cX10_isGone 36 = .ok (.iastore, 1) := by decide +kernel
theorem dX10_isGone_37 : decode cX10_isGone 37 = .ok (.aload_n 0, 1) := by decide +kernel
theorem dX10_isGone_38 : decode cX10_isGone 38 = .ok (.getfield 53, 3) := by decide +kernel
theorem dX10_isGone_41 : decode cX10_isGone 41 = .ok (.bipush 48, 2) := by decide +kernel
theorem dX10_isGone_43 : decode cX10_isGone 43 = .ok (.iload_n 1, 1) := by decide +kernel
theorem dX10_isGone_44 : decode cX10_isGone 44 = .ok (.imul, 1) := by decide +kernel
theorem dX10_isGone_45 : decode cX10_isGone 45 = .ok (.bipush 48, 2) := by decide +kernel
theorem dX10_isGone_47 : decode cX10_isGone 47 = .ok (.iadd, 1) := by decide +kernel
theorem dX10_isGone_48 : decode cX10_isGone 48 = .ok (.iload 4, 2) := by decide +kernel
theorem dX10_isGone_50 : decode cX10_isGone 50 = .ok (.iadd, 1) := by decide +kernel
theorem dX10_isGone_51 : decode cX10_isGone 51 = .ok (.aload_n 0, 1) := by decide +kernel
theorem dX10_isGone_52 : decode cX10_isGone 52 = .ok (.getfield 53, 3) := by decide +kernel
theorem dX10_isGone_55 : decode cX10_isGone 55 = .ok (.bipush 48, 2) := by decide +kernel
theorem dX10_isGone_57 : decode cX10_isGone 57 = .ok (.iload_n 1, 1) := by decide +kernel
theorem dX10_isGone_58 : decode cX10_isGone 58 = .ok (.imul, 1) := by decide +kernel
theorem dX10_isGone_59 : decode cX10_isGone 59 = .ok (.iload 4, 2) := by decide +kernel
theorem dX10_isGone_61 : decode cX10_isGone 61 = .ok (.iadd, 1) := by decide +kernel
theorem dX10_isGone_62 : decode cX10_isGone 62 = .ok (.iaload, 1) := by decide +kernel
theorem dX10_isGone_63 : decode cX10_isGone 63 = .ok (.iastore, 1) := by decide +kernel
theorem dX10_isGone_64 : decode cX10_isGone 64 = .ok (.iinc 4 1, 3) := by decide +kernel
theorem dX10_isGone_67 : decode cX10_isGone 67 = .ok (.goto (-64), 3) := by decide +kernel
theorem dX10_isGone_70 : decode cX10_isGone 70 = .ok (.iload_n 2, 1) := by decide +kernel
theorem dX10_isGone_71 : decode cX10_isGone 71 = .ok (.bipush 8, 2) := by decide +kernel
theorem dX10_isGone_73 : decode cX10_isGone 73 = .ok (.if_icmp .ne 7, 3) := by decide +kernel
theorem dX10_isGone_76 : decode cX10_isGone 76 = .ok (.iconst 0, 1) := by decide +kernel
theorem dX10_isGone_77 : decode cX10_isGone 77 = .ok (.goto 8, 3) := by decide +kernel
theorem dX10_isGone_80 : decode cX10_isGone 80 = .ok (.aload_n 0, 1) := by decide +kernel
theorem dX10_isGone_81 : decode cX10_isGone 81 = .ok (.iload_n 2, 1) := by decide +kernel
theorem dX10_isGone_82 : decode cX10_isGone 82 = .ok (.invokevirtual 242, 3) := by decide +kernel
theorem dX10_isGone_85 : decode cX10_isGone 85 = .ok (.istore 4, 2) := by decide +kernel
theorem dX10_isGone_87 : decode cX10_isGone 87 = .ok (.iload 4, 2) := by decide +kernel
theorem dX10_isGone_89 : decode cX10_isGone 89 = .ok (.iconst (-1), 1) := by decide +kernel
theorem dX10_isGone_90 : decode cX10_isGone 90 = .ok (.if_icmp .eq 23, 3) := by decide +kernel
theorem dX10_isGone_93 : decode cX10_isGone 93 = .ok (.iload 4, 2) := by decide +kernel
theorem dX10_isGone_95 : decode cX10_isGone 95 = .ok (.iload_n 3, 1) := by decide +kernel
theorem dX10_isGone_96 : decode cX10_isGone 96 = .ok (.bipush 7, 2) := by decide +kernel
theorem dX10_isGone_98 : decode cX10_isGone 98 = .ok (.iload_n 1, 1) := by decide +kernel
theorem dX10_isGone_99 : decode cX10_isGone 99 = .ok (.imul, 1) := by decide +kernel
theorem dX10_isGone_100 : decode cX10_isGone 100 = .ok (.ishr, 1) := by decide +kernel
theorem dX10_isGone_101 : decode cX10_isGone 101 = .ok (.bipush 127, 2) := by decide +kernel
theorem dX10_isGone_103 : decode cX10_isGone 103 = .ok (.iand, 1) := by decide +kernel
theorem dX10_isGone_104 : decode cX10_isGone 104 = .ok (.if_icmp .le 11, 3) := by decide +kernel
theorem dX10_isGone_107 : decode cX10_isGone 107 = .ok (.iload_n 2, 1) := by decide +kernel
theorem dX10_isGone_108 : decode cX10_isGone 108 = .ok (.bipush 8, 2) := by decide +kernel
theorem dX10_isGone_110 : decode cX10_isGone 110 = .ok (.if_icmp .ge 5, 3) := by decide +kernel
theorem dX10_isGone_113 : decode cX10_isGone 113 = .ok (.iconst 0, 1) := by decide +kernel
theorem dX10_isGone_114 : decode cX10_isGone 114 = .ok (.ireturn, 1) := by decide +kernel
theorem dX10_isGone_115 : decode cX10_isGone 115 = .ok (.iload_n 2, 1) := by decide +kernel
theorem dX10_isGone_116 : decode cX10_isGone 116 = .ok (.bipush 8, 2) := by decide +kernel
theorem dX10_isGone_118 : decode cX10_isGone 118 = .ok (.if_icmp .ge 16, 3) := by decide +kernel
theorem dX10_isGone_121 : decode cX10_isGone 121 = .ok (.aload_n 0, 1) := by decide +kernel
theorem dX10_isGone_122 : decode cX10_isGone 122 = .ok (.iload_n 2, 1) := by decide +kernel
theorem dX10_isGone_123 : decode cX10_isGone 123 = .ok (.bipush 48, 2) := by decide +kernel
theorem dX10_isGone_125 : decode cX10_isGone 125 = .ok (.iload_n 1, 1) := by decide +kernel
theorem dX10_isGone_126 : decode cX10_isGone 126 = .ok (.imul, 1) := by decide +kernel
theorem dX10_isGone_127 : decode cX10_isGone 127 = .ok (.bipush 48, 2) := by decide +kernel
theorem dX10_isGone_129 : decode cX10_isGone 129 = .ok (.iadd, 1) := by decide +kernel
theorem dX10_isGone_130 : decode cX10_isGone 130 = .ok (.invokevirtual 138, 3) := by decide +kernel
theorem dX10_isGone_133 : decode cX10_isGone 133 = .ok (.pop, 1) := by decide +kernel
theorem dX10_isGone_134 : decode cX10_isGone 134 = .ok (.aload_n 0, 1) := by decide +kernel
theorem dX10_isGone_135 : decode cX10_isGone 135 = .ok (.bipush 48, 2) := by decide +kernel
theorem dX10_isGone_137 : decode cX10_isGone 137 = .ok (.iload_n 1, 1) := by decide +kernel
theorem dX10_isGone_138 : decode cX10_isGone 138 = .ok (.imul, 1) := by decide +kernel
theorem dX10_isGone_139 : decode cX10_isGone 139 = .ok (.bipush 48, 2) := by decide +kernel
theorem dX10_isGone_141 : decode cX10_isGone 141 = .ok (.iadd, 1) := by decide +kernel
theorem dX10_isGone_142 : decode cX10_isGone 142 = .ok (.bipush 48, 2) := by decide +kernel
theorem dX10_isGone_144 : decode cX10_isGone 144 = .ok (.iload_n 1, 1) := by decide +kernel
theorem dX10_isGone_145 : decode cX10_isGone 145 = .ok (.imul, 1) := by decide +kernel
theorem dX10_isGone_146 : decode cX10_isGone 146 = .ok (.bipush 48, 2) := by decide +kernel
theorem dX10_isGone_148 : decode cX10_isGone 148 = .ok (.iadd, 1) := by decide +kernel
theorem dX10_isGone_149 : decode cX10_isGone 149 = .ok (.invokevirtual 134, 3) := by decide +kernel
theorem dX10_isGone_152 : decode cX10_isGone 152 = .ok (.iconst 1, 1) := by decide +kernel
theorem dX10_isGone_153 : decode cX10_isGone 153 = .ok (.ireturn, 1) := by decide +kernel
theorem dX10_allAt_0 : decode cX10_allAt 0 = .ok (.iconst 0, 1) := by decide +kernel
theorem dX10_allAt_1 : decode cX10_allAt 1 = .ok (.istore_n 2, 1) := by decide +kernel
theorem dX10_allAt_2 : decode cX10_allAt 2 = .ok (.iconst 0, 1) := by decide +kernel
theorem dX10_allAt_3 : decode cX10_allAt 3 = .ok (.istore_n 3, 1) := by decide +kernel
theorem dX10_allAt_4 : decode cX10_allAt 4 = .ok (.iload_n 3, 1) := by decide +kernel
theorem dX10_allAt_5 : decode cX10_allAt 5 = .ok (.bipush 48, 2) := by decide +kernel
theorem dX10_allAt_7 : decode cX10_allAt 7 = .ok (.if_icmp .ge 34, 3) := by decide +kernel
theorem dX10_allAt_10 : decode cX10_allAt 10 = .ok (.iload_n 2, 1) := by decide +kernel
theorem dX10_allAt_11 : decode cX10_allAt 11 = .ok (.aload_n 0, 1) := by decide +kernel
theorem dX10_allAt_12 : decode cX10_allAt 12 = .ok (.getfield 32, 3) := by decide +kernel
theorem dX10_allAt_15 : decode cX10_allAt 15 = .ok (.iload_n 3, 1) := by decide +kernel
theorem dX10_allAt_16 : decode cX10_allAt 16 = .ok (.iaload, 1) := by decide +kernel
theorem dX10_allAt_17 : decode cX10_allAt 17 = .ok (.iconst (-1), 1) := by decide +kernel
theorem dX10_allAt_18 : decode cX10_allAt 18 = .ok (.if_icmp .ne 7, 3) := by decide +kernel
theorem dX10_allAt_21 : decode cX10_allAt 21 = .ok (.iconst 0, 1) := by decide +kernel
theorem dX10_allAt_22 : decode cX10_allAt 22 = .ok (.goto 11, 3) := by decide +kernel
theorem dX10_allAt_25 : decode cX10_allAt 25 = .ok (.aload_n 0, 1) := by decide +kernel
theorem dX10_allAt_26 : decode cX10_allAt 26 = .ok (.getfield 50, 3) := by decide +kernel
theorem dX10_allAt_29 : decode cX10_allAt 29 = .ok (.iload_n 1, 1) := by decide +kernel
theorem dX10_allAt_30 : decode cX10_allAt 30 = .ok (.iload_n 3, 1) := by decide +kernel
theorem dX10_allAt_31 : decode cX10_allAt 31 = .ok (.iadd, 1) := by decide +kernel
theorem dX10_allAt_32 : decode cX10_allAt 32 = .ok (.iaload, 1) := by decide +kernel
theorem dX10_allAt_33 : decode cX10_allAt 33 = .ok (.iadd, 1) := by decide +kernel
theorem dX10_allAt_34 : decode cX10_allAt 34 = .ok (.istore_n 2, 1) := by decide +kernel
theorem dX10_allAt_35 : decode cX10_allAt 35 = .ok (.iinc 3 1, 3) := by decide +kernel
theorem dX10_allAt_38 : decode cX10_allAt 38 = .ok (.goto (-34), 3) := by decide +kernel
theorem dX10_allAt_41 : decode cX10_allAt 41 = .ok (.iload_n 2, 1) := by decide +kernel
theorem dX10_allAt_42 : decode cX10_allAt 42 = .ok (.ireturn, 1) := by decide +kernel
set_option maxRecDepth 20000 in
theorem ggX10_plan_X10_areMinutes : GoodIn wsX10_plan wsX10_areMinutes := goodIn_r _ [6, 7, 8, 5, 9] (by decide +kernel) (by decide +kernel)
set_option maxRecDepth 20000 in
theorem gX10_plan_X10_areMinutes : GoodIn wsX10_plan (va_wsS RX10 245 yX10_areMinutes wsX10_areMinutes) := goodIn_app (goodIn_of _ (by decide +kernel)) ggX10_plan_X10_areMinutes
set_option maxRecDepth 20000 in
theorem ggX10_plan_X10_in : GoodIn wsX10_plan wsX10_in := goodIn_r _ [9] (by decide +kernel) (by decide +kernel)
set_option maxRecDepth 20000 in
theorem gX10_plan_X10_in : GoodIn wsX10_plan (va_wsS RX10 93 yX10_in wsX10_in) := goodIn_app (goodIn_of _ (by decide +kernel)) ggX10_plan_X10_in
set_option maxRecDepth 20000 in
theorem ggX10_plan_X10_lookAhead : GoodIn wsX10_plan wsX10_lookAhead := goodIn_r _ [13, 14, 15, 16, 17, 18, 19, 64, 65, 66, 67, 68, 69, 70, 71, 72, 73, 74, 75, 76, 77, 78, 79, 80, 81, 82, 83, 84, 85, 86, 87, 88, 89, 90, 91, 92, 93, 94, 95, 96, 97, 98, 99, 100, 101, 102] (by decide +kernel) (by decide +kernel)
set_option maxRecDepth 20000 in
theorem gX10_plan_X10_lookAhead : GoodIn wsX10_plan (wsV RX10 131 RX10 yX10_lookAhead wsX10_lookAhead) := goodIn_app (goodIn_of _ (by decide +kernel)) ggX10_plan_X10_lookAhead
set_option maxRecDepth 20000 in
theorem ggX10_plan_X10_isGone : GoodIn wsX10_plan wsX10_isGone := goodIn_r _ [23, 14, 17, 24, 25, 26, 5, 27, 28, 29, 30, 31, 32, 33, 34, 35, 36, 37, 38, 39, 15, 40, 41, 42, 43, 44, 45, 46, 47, 48, 49, 50, 51, 52, 53, 54, 55, 56, 57, 58, 59, 64, 65, 66, 67, 68, 69, 70, 71, 72, 73, 74, 75, 76, 77, 78, 79, 80, 81, 82, 83, 84, 85, 86, 87, 88, 89, 90, 91, 92, 93, 94, 95, 96, 97, 98, 99, 100, 101, 102] (by decide +kernel) (by decide +kernel)
set_option maxRecDepth 20000 in
theorem gX10_plan_X10_isGone : GoodIn wsX10_plan (wsV RX10 248 RX10 yX10_isGone wsX10_isGone) := goodIn_app (goodIn_of _ (by decide +kernel)) ggX10_plan_X10_isGone
set_option maxRecDepth 20000 in
theorem ggX10_plan_X10_allAt : GoodIn wsX10_plan wsX10_allAt := goodIn_r _ [63, 15, 14, 64, 65, 66, 67, 68, 69, 70, 71, 72, 73, 74, 75, 76, 77, 78, 79, 80, 81, 82, 83, 84, 85, 86, 87, 88, 89, 90, 91, 92, 93, 94, 95, 96, 97, 98, 99, 100, 101, 102] (by decide +kernel) (by decide +kernel)
set_option maxRecDepth 20000 in
theorem gX10_plan_X10_allAt : GoodIn wsX10_plan (wsV RX10 251 RX10 yX10_allAt wsX10_allAt) := goodIn_app (goodIn_of _ (by decide +kernel)) ggX10_plan_X10_allAt
theorem dX10_plan_0 : decode cX10_plan 0 = .ok (.iload_n 1, 1) := by decide +kernel
theorem dX10_plan_1 : decode cX10_plan 1 = .ok (.iload_n 2, 1) := by decide +kernel
theorem dX10_plan_2 : decode cX10_plan 2 = .ok (.invokestatic 245, 3) := by decide +kernel
theorem dX10_plan_5 : decode cX10_plan 5 = .ok (.ifCond .eq 14, 3) := by decide +kernel
theorem dX10_plan_8 : decode cX10_plan 8 = .ok (.iload_n 3, 1) := by decide +kernel
theorem dX10_plan_9 : decode cX10_plan 9 = .ok (.iconst (-1), 1) := by decide +kernel
theorem dX10_plan_10 : decode cX10_plan 10 = .ok (.iload_n 1, 1) := by decide +kernel
theorem dX10_plan_11 : decode cX10_plan 11 = .ok (.iconst 1, 1) := by decide +kernel
theorem dX10_plan_12 : decode cX10_plan 12 = .ok (.isub, 1) := by decide +kernel
theorem dX10_plan_13 : decode cX10_plan 13 = .ok (.invokestatic 93, 3) := by decide +kernel
theorem dX10_plan_16 : decode cX10_plan 16 = .ok (.ifCond .ne 6, 3) := by decide +kernel
theorem dX10_plan_19 : decode cX10_plan 19 = .ok (.bipush (-3), 2) := by decide +kernel
theorem dX10_plan_21 : decode cX10_plan 21 = .ok (.ireturn, 1) := by decide +kernel
theorem dX10_plan_22 : decode cX10_plan 22 = .ok (.aload_n 0, 1) := by decide +kernel
theorem dX10_plan_23 : decode cX10_plan 23 = .ok (.invokevirtual 131, 3) := by decide +kernel
theorem dX10_plan_26 : decode cX10_plan 26 = .ok (.iconst (-1), 1) := by decide +kernel
theorem dX10_plan_27 : decode cX10_plan 27 = .ok (.istore 4, 2) := by decide +kernel
theorem dX10_plan_29 : decode cX10_plan 29 = .ok (.iconst 0, 1) := by decide +kernel
theorem dX10_plan_30 : decode cX10_plan 30 = .ok (.istore 5, 2) := by decide +kernel
theorem dX10_plan_32 : decode cX10_plan 32 = .ok (.aload_n 0, 1) := by decide +kernel
theorem dX10_plan_33 : decode cX10_plan 33 = .ok (.getfield 56, 3) := by decide +kernel
theorem dX10_plan_36 : decode cX10_plan 36 = .ok (.iconst 0, 1) := by decide +kernel
theorem dX10_plan_37 : decode cX10_plan 37 = .ok (.iconst (-1), 1) := by decide +kernel
theorem dX10_plan_38 : decode cX10_plan 38 = .ok (.iastore, 1) := by decide +kernel
theorem dX10_plan_39 : decode cX10_plan 39 = .ok (.iload 5, 2) := by decide +kernel
theorem dX10_plan_41 : decode cX10_plan 41 = .ok (.ifCond .lt 134, 3) := by decide +kernel
theorem dX10_plan_44 : decode cX10_plan 44 = .ok (.aload_n 0, 1) := by decide +kernel
theorem dX10_plan_45 : decode cX10_plan 45 = .ok (.getfield 56, 3) := by decide +kernel
theorem dX10_plan_48 : decode cX10_plan 48 = .ok (.iload 5, 2) := by decide +kernel
theorem dX10_plan_50 : decode cX10_plan 50 = .ok (.dup2, 1) := by decide +kernel
theorem dX10_plan_51 : decode cX10_plan 51 = .ok (.iaload, 1) := by decide +kernel
theorem dX10_plan_52 : decode cX10_plan 52 = .ok (.iconst 1, 1) := by decide +kernel
theorem dX10_plan_53 : decode cX10_plan 53 = .ok (.iadd, 1) := by decide +kernel
theorem dX10_plan_54 : decode cX10_plan 54 = .ok (.iastore, 1) := by decide +kernel
theorem dX10_plan_55 : decode cX10_plan 55 = .ok (.aload_n 0, 1) := by decide +kernel
theorem dX10_plan_56 : decode cX10_plan 56 = .ok (.getfield 56, 3) := by decide +kernel
theorem dX10_plan_59 : decode cX10_plan 59 = .ok (.iload 5, 2) := by decide +kernel
theorem dX10_plan_61 : decode cX10_plan 61 = .ok (.iaload, 1) := by decide +kernel
theorem dX10_plan_62 : decode cX10_plan 62 = .ok (.bipush 8, 2) := by decide +kernel
theorem dX10_plan_64 : decode cX10_plan 64 = .ok (.if_icmp .le 9, 3) := by decide +kernel
theorem dX10_plan_67 : decode cX10_plan 67 = .ok (.iinc 5 (-1), 3) := by decide +kernel
theorem dX10_plan_70 : decode cX10_plan 70 = .ok (.goto (-31), 3) := by decide +kernel
theorem dX10_plan_73 : decode cX10_plan 73 = .ok (.aload_n 0, 1) := by decide +kernel
theorem dX10_plan_74 : decode cX10_plan 74 = .ok (.iload 5, 2) := by decide +kernel
theorem dX10_plan_76 : decode cX10_plan 76 = .ok (.aload_n 0, 1) := by decide +kernel
theorem dX10_plan_77 : decode cX10_plan 77 = .ok (.getfield 56, 3) := by decide +kernel
theorem dX10_plan_80 : decode cX10_plan 80 = .ok (.iload 5, 2) := by decide +kernel
theorem dX10_plan_82 : decode cX10_plan 82 = .ok (.iaload, 1) := by decide +kernel
theorem dX10_plan_83 : decode cX10_plan 83 = .ok (.iload_n 2, 1) := by decide +kernel
theorem dX10_plan_84 : decode cX10_plan 84 = .ok (.invokevirtual 248, 3) := by decide +kernel
theorem dX10_plan_87 : decode cX10_plan 87 = .ok (.ifCond .eq (-48), 3) := by decide +kernel
theorem dX10_plan_90 : decode cX10_plan 90 = .ok (.iinc 5 1, 3) := by decide +kernel
theorem dX10_plan_93 : decode cX10_plan 93 = .ok (.aload_n 0, 1) := by decide +kernel
theorem dX10_plan_94 : decode cX10_plan 94 = .ok (.getfield 56, 3) := by decide +kernel
theorem dX10_plan_97 : decode cX10_plan 97 = .ok (.iload 5, 2) := by decide +kernel
theorem dX10_plan_99 : decode cX10_plan 99 = .ok (.iconst (-1), 1) := by decide +kernel
theorem dX10_plan_100 : decode cX10_plan 100 = .ok (.iastore, 1) := by decide +kernel
theorem dX10_plan_101 : decode cX10_plan 101 = .ok (.iload 5, 2) := by decide +kernel
theorem dX10_plan_103 : decode cX10_plan 103 = .ok (.iload_n 1, 1) := by decide +kernel
theorem dX10_plan_104 : decode cX10_plan 104 = .ok (.if_icmp .ne (-65), 3) := by decide +kernel
theorem dX10_plan_107 : decode cX10_plan 107 = .ok (.aload_n 0, 1) := by decide +kernel
theorem dX10_plan_108 : decode cX10_plan 108 = .ok (.bipush 48, 2) := by decide +kernel
theorem dX10_plan_110 : decode cX10_plan 110 = .ok (.iload_n 1, 1) := by decide +kernel
theorem dX10_plan_111 : decode cX10_plan 111 = .ok (.imul, 1) := by decide +kernel
theorem dX10_plan_112 : decode cX10_plan 112 = .ok (.invokevirtual 251, 3) := by decide +kernel
theorem dX10_plan_115 : decode cX10_plan 115 = .ok (.istore 6, 2) := by decide +kernel
theorem dX10_plan_117 : decode cX10_plan 117 = .ok (.iconst 0, 1) := by decide +kernel
theorem dX10_plan_118 : decode cX10_plan 118 = .ok (.istore 7, 2) := by decide +kernel
theorem dX10_plan_120 : decode cX10_plan 120 = .ok (.iload 7, 2) := by decide +kernel
theorem dX10_plan_122 : decode cX10_plan 122 = .ok (.iload_n 1, 1) := by decide +kernel
theorem dX10_plan_123 : decode cX10_plan 123 = .ok (.if_icmp .ge 30, 3) := by decide +kernel
theorem dX10_plan_126 : decode cX10_plan 126 = .ok (.iload 6, 2) := by decide +kernel
theorem dX10_plan_128 : decode cX10_plan 128 = .ok (.iload 4, 2) := by decide +kernel
theorem dX10_plan_130 : decode cX10_plan 130 = .ok (.if_icmp .le 23, 3) := by decide +kernel
theorem dX10_plan_133 : decode cX10_plan 133 = .ok (.aload_n 0, 1) := by decide +kernel
theorem dX10_plan_134 : decode cX10_plan 134 = .ok (.getfield 59, 3) := by decide +kernel
theorem dX10_plan_137 : decode cX10_plan 137 = .ok (.iload 7, 2) := by decide +kernel
theorem dX10_plan_139 : decode cX10_plan 139 = .ok (.aload_n 0, 1) := by decide +kernel
theorem dX10_plan_140 : decode cX10_plan 140 = .ok (.getfield 56, 3) := by decide +kernel
theorem dX10_plan_143 : decode cX10_plan 143 = .ok (.iload 7, 2) := by decide +kernel
theorem dX10_plan_145 : decode cX10_plan 145 = .ok (.iaload, 1) := by decide +kernel
theorem dX10_plan_146 : decode cX10_plan 146 = .ok (.iastore, 1) := by decide +kernel
theorem dX10_plan_147 : decode cX10_plan 147 = .ok (.iinc 7 1, 3) := by decide +kernel
theorem dX10_plan_150 : decode cX10_plan 150 = .ok (.goto (-30), 3) := by decide +kernel
theorem dX10_plan_153 : decode cX10_plan 153 = .ok (.iload 6, 2) := by decide +kernel
theorem dX10_plan_155 : decode cX10_plan 155 = .ok (.iload 4, 2) := by decide +kernel
theorem dX10_plan_157 : decode cX10_plan 157 = .ok (.if_icmp .le 8, 3) := by decide +kernel
theorem dX10_plan_160 : decode cX10_plan 160 = .ok (.iload 6, 2) := by decide +kernel
theorem dX10_plan_162 : decode cX10_plan 162 = .ok (.goto 5, 3) := by decide +kernel
theorem dX10_plan_165 : decode cX10_plan 165 = .ok (.iload 4, 2) := by decide +kernel
theorem dX10_plan_167 : decode cX10_plan 167 = .ok (.istore 4, 2) := by decide +kernel
theorem dX10_plan_169 : decode cX10_plan 169 = .ok (.iinc 5 (-1), 3) := by decide +kernel
theorem dX10_plan_172 : decode cX10_plan 172 = .ok (.goto (-133), 3) := by decide +kernel
theorem dX10_plan_175 : decode cX10_plan 175 = .ok (.iload_n 3, 1) := by decide +kernel
theorem dX10_plan_176 : decode cX10_plan 176 = .ok (.iconst (-1), 1) := by decide +kernel
theorem dX10_plan_177 : decode cX10_plan 177 = .ok (.if_icmp .ne 8, 3) := by decide +kernel
theorem dX10_plan_180 : decode cX10_plan 180 = .ok (.iload 4, 2) := by decide +kernel
theorem dX10_plan_182 : decode cX10_plan 182 = .ok (.goto 9, 3) := by decide +kernel
theorem dX10_plan_185 : decode cX10_plan 185 = .ok (.aload_n 0, 1) := by decide +kernel
theorem dX10_plan_186 : decode cX10_plan 186 = .ok (.getfield 59, 3) := by decide +kernel
theorem dX10_plan_189 : decode cX10_plan 189 = .ok (.iload_n 3, 1) := by decide +kernel
theorem dX10_plan_190 : decode cX10_plan 190 = .ok (.iaload, 1) := by decide +kernel
theorem dX10_plan_191 : decode cX10_plan 191 = .ok (.ireturn, 1) := by decide +kernel
set_option maxRecDepth 20000 in
theorem ggX10_judge_X10_areMinutes : GoodIn wsX10_judge wsX10_areMinutes := goodIn_r _ [4, 5, 6, 3, 7] (by decide +kernel) (by decide +kernel)
set_option maxRecDepth 20000 in
theorem gX10_judge_X10_areMinutes : GoodIn wsX10_judge (va_wsS RX10 245 yX10_areMinutes wsX10_areMinutes) := goodIn_app (goodIn_of _ (by decide +kernel)) ggX10_judge_X10_areMinutes
set_option maxRecDepth 20000 in
theorem ggX10_judge_X10_lookAhead : GoodIn wsX10_judge wsX10_lookAhead := goodIn_r _ [11, 12, 13, 14, 15, 16, 17, 62, 63, 64, 65, 66, 67, 68, 69, 70, 71, 72, 73, 74, 75, 76, 77, 78, 79, 80, 81, 82, 83, 84, 85, 86, 87, 88, 89, 90, 91, 92, 93, 94, 95, 96, 97, 98, 99, 100] (by decide +kernel) (by decide +kernel)
set_option maxRecDepth 20000 in
theorem gX10_judge_X10_lookAhead : GoodIn wsX10_judge (wsV RX10 131 RX10 yX10_lookAhead wsX10_lookAhead) := goodIn_app (goodIn_of _ (by decide +kernel)) ggX10_judge_X10_lookAhead
set_option maxRecDepth 20000 in
theorem ggX10_judge_X10_isGone : GoodIn wsX10_judge wsX10_isGone := goodIn_r _ [21, 12, 15, 22, 23, 24, 3, 25, 26, 27, 28, 29, 30, 31, 32, 33, 34, 35, 36, 37, 13, 38, 39, 40, 41, 42, 43, 44, 45, 46, 47, 48, 49, 50, 51, 52, 53, 54, 55, 56, 57, 62, 63, 64, 65, 66, 67, 68, 69, 70, 71, 72, 73, 74, 75, 76, 77, 78, 79, 80, 81, 82, 83, 84, 85, 86, 87, 88, 89, 90, 91, 92, 93, 94, 95, 96, 97, 98, 99, 100] (by decide +kernel) (by decide +kernel)
set_option maxRecDepth 20000 in
theorem gX10_judge_X10_isGone : GoodIn wsX10_judge (wsV RX10 248 RX10 yX10_isGone wsX10_isGone) := goodIn_app (goodIn_of _ (by decide +kernel)) ggX10_judge_X10_isGone
set_option maxRecDepth 20000 in
theorem ggX10_judge_X10_allAt : GoodIn wsX10_judge wsX10_allAt := goodIn_r _ [61, 13, 12, 62, 63, 64, 65, 66, 67, 68, 69, 70, 71, 72, 73, 74, 75, 76, 77, 78, 79, 80, 81, 82, 83, 84, 85, 86, 87, 88, 89, 90, 91, 92, 93, 94, 95, 96, 97, 98, 99, 100] (by decide +kernel) (by decide +kernel)
set_option maxRecDepth 20000 in
theorem gX10_judge_X10_allAt : GoodIn wsX10_judge (wsV RX10 251 RX10 yX10_allAt wsX10_allAt) := goodIn_app (goodIn_of _ (by decide +kernel)) ggX10_judge_X10_allAt
theorem dX10_judge_0 : decode cX10_judge 0 = .ok (.iload_n 2, 1) := by decide +kernel
theorem dX10_judge_1 : decode cX10_judge 1 = .ok (.iload_n 3, 1) := by decide +kernel
theorem dX10_judge_2 : decode cX10_judge 2 = .ok (.invokestatic 245, 3) := by decide +kernel
theorem dX10_judge_5 : decode cX10_judge 5 = .ok (.ifCond .ne 6, 3) := by decide +kernel
theorem dX10_judge_8 : decode cX10_judge 8 = .ok (.bipush (-3), 2) := by decide +kernel
theorem dX10_judge_10 : decode cX10_judge 10 = .ok (.ireturn, 1) := by decide +kernel
theorem dX10_judge_11 : decode cX10_judge 11 = .ok (.iconst 0, 1) := by decide +kernel
theorem dX10_judge_12 : decode cX10_judge 12 = .ok (.istore 4, 2) := by decide +kernel
theorem dX10_judge_14 : decode cX10_judge 14 = .ok (.iload 4, 2) := by decide +kernel
theorem dX10_judge_16 : decode cX10_judge 16 = .ok (.iload_n 2, 1) := by decide +kernel
theorem dX10_judge_17 : decode cX10_judge 17 = .ok (.if_icmp .ge 26, 3) := by decide +kernel
theorem dX10_judge_20 : decode cX10_judge 20 = .ok (.iload_n 1, 1) := by decide +kernel
theorem dX10_judge_21 : decode cX10_judge 21 = .ok (.iconst 4, 1) := by decide +kernel
theorem dX10_judge_22 : decode cX10_judge 22 = .ok (.iload 4, 2) := by decide +kernel
theorem dX10_judge_24 : decode cX10_judge 24 = .ok (.imul, 1) := by decide +kernel
theorem dX10_judge_25 : decode cX10_judge 25 = .ok (.ishr, 1) := by decide +kernel
theorem dX10_judge_26 : decode cX10_judge 26 = .ok (.bipush 15, 2) := by decide +kernel
theorem dX10_judge_28 : decode cX10_judge 28 = .ok (.iand, 1) := by decide +kernel
theorem dX10_judge_29 : decode cX10_judge 29 = .ok (.bipush 8, 2) := by decide +kernel
theorem dX10_judge_31 : decode cX10_judge 31 = .ok (.if_icmp .le 6, 3) := by decide +kernel
theorem dX10_judge_34 : decode cX10_judge 34 = .ok (.bipush (-3), 2) := by decide +kernel
theorem dX10_judge_36 : decode cX10_judge 36 = .ok (.ireturn, 1) := by decide +kernel
theorem dX10_judge_37 : decode cX10_judge 37 = .ok (.iinc 4 1, 3) := by decide +kernel
theorem dX10_judge_40 : decode cX10_judge 40 = .ok (.goto (-26), 3) := by decide +kernel
theorem dX10_judge_43 : decode cX10_judge 43 = .ok (.aload_n 0, 1) := by decide +kernel
theorem dX10_judge_44 : decode cX10_judge 44 = .ok (.invokevirtual 131, 3) := by decide +kernel
theorem dX10_judge_47 : decode cX10_judge 47 = .ok (.iconst 0, 1) := by decide +kernel
theorem dX10_judge_48 : decode cX10_judge 48 = .ok (.istore 4, 2) := by decide +kernel
theorem dX10_judge_50 : decode cX10_judge 50 = .ok (.iload 4, 2) := by decide +kernel
theorem dX10_judge_52 : decode cX10_judge 52 = .ok (.iload_n 2, 1) := by decide +kernel
theorem dX10_judge_53 : decode cX10_judge 53 = .ok (.if_icmp .ge 30, 3) := by decide +kernel
theorem dX10_judge_56 : decode cX10_judge 56 = .ok (.aload_n 0, 1) := by decide +kernel
theorem dX10_judge_57 : decode cX10_judge 57 = .ok (.iload 4, 2) := by decide +kernel
theorem dX10_judge_59 : decode cX10_judge 59 = .ok (.iload_n 1, 1) := by decide +kernel
theorem dX10_judge_60 : decode cX10_judge 60 = .ok (.iconst 4, 1) := by decide +kernel
theorem dX10_judge_61 : decode cX10_judge 61 = .ok (.iload 4, 2) := by decide +kernel
theorem dX10_judge_63 : decode cX10_judge 63 = .ok (.imul, 1) := by decide +kernel
theorem dX10_judge_64 : decode cX10_judge 64 = .ok (.ishr, 1) := by decide +kernel
theorem dX10_judge_65 : decode cX10_judge 65 = .ok (.bipush 15, 2) := by decide +kernel
theorem dX10_judge_67 : decode cX10_judge 67 = .ok (.iand, 1) := by decide +kernel
theorem dX10_judge_68 : decode cX10_judge 68 = .ok (.iload_n 3, 1) := by decide +kernel
theorem dX10_judge_69 : decode cX10_judge 69 = .ok (.invokevirtual 248, 3) := by decide +kernel
theorem dX10_judge_72 : decode cX10_judge 72 = .ok (.ifCond .ne 5, 3) := by decide +kernel
theorem dX10_judge_75 : decode cX10_judge 75 = .ok (.iconst (-1), 1) := by decide +kernel
theorem dX10_judge_76 : decode cX10_judge 76 = .ok (.ireturn, 1) := by decide +kernel
theorem dX10_judge_77 : decode cX10_judge 77 = .ok (.iinc 4 1, 3) := by decide +kernel
theorem dX10_judge_80 : decode cX10_judge 80 = .ok (.goto (-30), 3) := by decide +kernel
theorem dX10_judge_83 : decode cX10_judge 83 = .ok (.aload_n 0, 1) := by decide +kernel
theorem dX10_judge_84 : decode cX10_judge 84 = .ok (.bipush 48, 2) := by decide +kernel
theorem dX10_judge_86 : decode cX10_judge 86 = .ok (.iload_n 2, 1) := by decide +kernel
theorem dX10_judge_87 : decode cX10_judge 87 = .ok (.imul, 1) := by decide +kernel
theorem dX10_judge_88 : decode cX10_judge 88 = .ok (.invokevirtual 251, 3) := by decide +kernel
theorem dX10_judge_91 : decode cX10_judge 91 = .ok (.ireturn, 1) := by decide +kernel
set_option maxHeartbeats 4000000 in
set_option maxRecDepth 100000 in
theorem k_X10_costOf (l : Launch) (dC : Nat → ClassId) (dI : Nat → Nat → Nat) (cI cZ cQ : ClassId) (b : Nat → Nat) (mday : Int32) (mdoo : Int32) (mdA : Nat → Int32) (mdB : Nat → Int32) (mfar : Nat → Int32) (mmar : Nat → Int32) (mtel : Int32) (mgai : Int32) (mfal : Nat → Int32) (mtop : Nat → Int32) (mstr : Nat → Int32) (mgho : Nat → Int32) (mfai : Nat → Int32) (mpto : Nat → Int32) (mwal : Nat → Int32) (mahd : Nat → Int32) (mahf : Nat → Int32) (mcho : Nat → Int32) (mbes : Nat → Int32) (mbyt : Int32) (mtxt : Nat → Int32) (mpos : Int32) (mtka : Int32) (mtok : Int64) (mdig : Int32) (mnum : Int32) (mfau : Int32) (mrdm : Int32) (mrea : Nat → Int32) (mlin : Int32) (mlne : Nat → Int32) (mthg : Nat → Int32) (mord : Nat → Int32) (mbor : Nat → Int32) (mbsm : Int32) (mans : Nat → Int32) (mand : Nat → Int32) (manr : Nat → Int32) (mali : Nat → Int32) (sz : Nat) (ro : Int32) (r_mday : 0 ≤ mday.toInt ∧ mday.toInt ≤ 400) (r_mdoo : 0 ≤ mdoo.toInt ∧ mdoo.toInt ≤ 14) (r_mdA : rg 14 (0) (7) mdA) (r_mdB : rg 14 (0) (7) mdB) (r_mmar : rg 24 (0) (255) mmar) (r_mgai : 0 ≤ mgai.toInt ∧ mgai.toInt ≤ 100) (r_mfal : rg 11 (0) (30) mfal) (r_mtop : rg 48 (-1) (23) mtop) (r_mstr : rg 48 (0) (100) mstr) (r_mgho : rg 48 (-1) (23) mgho) (r_mfai : rg 48 (0) (100) mfai) (r_mahd : rg 240 (0) (100) mahd) (r_mahf : rg 240 (0) (100) mahf) (r_mcho : rg 5 (-1) (9) mcho) (r_mbyt : 0 ≤ mbyt.toInt ∧ mbyt.toInt ≤ 160) (r_mpos : 0 ≤ mpos.toInt ∧ mpos.toInt ≤ 160) (r_mrdm : 0 ≤ mrdm.toInt ∧ mrdm.toInt ≤ 10) (r_mlin : 0 ≤ mlin.toInt ∧ mlin.toInt ≤ 10) (r_mthg : rg 8 (0) (31) mthg) (r_mord : rg 8 (-1) (8) mord) (r_mans : rg 4 (0) (12) mans) (q0 : 0 ≤ ro.toInt) (q1 : ro.toInt ≤ 7) : KW l yX10_costOf wsX10_costOf { frames := 1, cells := 0, slots := 0, locals := 26 } (dC, dI) (TY cI cZ cQ) (wMod cI cZ cQ b mday mdoo mdA mdB mfar mmar mtel mgai mfal mtop mstr mgho mfai mpto mwal mahd mahf mcho mbes mbyt mtxt mpos mtka mtok mdig mnum mfau mrdm mrea mlin mlne mthg mord mbor mbsm mans mand manr mali) [.ref (b 39), .int ro] sz 0 0 (fun (r : Int32) (u : US) => True) (fun u : US => (wMod cI cZ cQ b mday mdoo mdA mdB (u.1 0) mmar mtel mgai mfal mtop mstr mgho mfai mpto mwal mahd mahf mcho mbes mbyt mtxt mpos mtka mtok mdig mnum mfau mrdm mrea mlin mlne mthg mord mbor mbsm mans mand manr mali)) := by
  refine Met.ofW (cc := cX10_costOf) (maxL := 3) (ret := (some .int)) (by decide) rfl ?_
  intro p e s m args below meth c s₁ B hml hv
  obtain ⟨rfl, hsz, hP, hK, hD0, hN⟩ := hv
  have hx := B.exec
  have hb := B.bytes
  have hr := B.returns
  have hts := atoms_spec (ws := wsX10_costOf) B.pre
  have hown : s.vm.findClass RX10 = some m.cls := findClass_of_methodNamed B.named
  have hlocks := B.notSynchronized
  subst hsz
  have hD := hD0.self (sz := s.heap.size)
  generalize hAe : va_A (wMod cI cZ cQ b mday mdoo mdA mdB mfar mmar mtel mgai mfal mtop mstr mgho mfai mpto mwal mahd mahf mcho mbes mbyt mtxt mpos mtka mtok mdig mnum mfau mrdm mrea mlin mlne mthg mord mbor mbsm mans mand manr mali) s.heap.size = A at hD ⊢
  have hA : ∀ q : Nat, s.heap.size ≤ q → A q := fun q h => by rw [← hAe]; exact Or.inr h
  have hS : va_S A s.heap s.heap [] := va_S.rf
  have hl := lv_entry ([.ref (b 39), .int ro]) (n := 3) (Nat.le_of_ble_eq_true rfl)
  rw [lg_entry_eq]
  generalize (lg_sl ([.ref (b 39), .int ro]) ++ List.replicate (3 - (lg_sl ([.ref (b 39), .int ro])).length) Slot.unset).toArray = ls at hl ⊢
  have hl : lv_has ls 3 [(0, .ref (b 39)), (1, .int ro)] := hl
  refine lv_aload_n hx hb dX10_costOf_0 rfl (lv_at hl 0 rfl) ?_
  refine lv_iconst (v := 0) hx hb dX10_costOf_1 (by decide) ?_
  refine lv_iload_n hx hb dX10_costOf_2 rfl (lv_at hl 1 rfl) ?_
  refine wrV (As := [.int 0, .int ro]) (rest := []) (wr := []) (w2 := (fun u : US => (wMod cI cZ cQ b mday mdoo mdA mdB (u.1 0) mmar mtel mgai mfal mtop mstr mgho mfai mpto mwal mahd mahf mcho mbes mbyt mtxt mpos mtka mtok mdig mnum mfau mrdm mrea mlin mlne mthg mord mbor mbsm mans mand manr mali))) ⟨hx, hb, hml, hown, hts⟩ (k_X10_doorsTo l dC dI cI cZ cQ b mday mdoo mdA mdB mfar mmar mtel mgai mfal mtop mstr mgho mfai mpto mwal mahd mahf mcho mbes mbyt mtxt mpos mtka mtok mdig mnum mfau mrdm mrea mlin mlne mthg mord mbor mbsm mans mand manr mali _ (0 : Int32) ro r_mday r_mdoo r_mdA r_mdB r_mmar r_mgai r_mfal r_mtop r_mstr r_mgho r_mfai r_mahd r_mahf r_mcho r_mbyt r_mpos r_mrdm r_mlin r_mthg r_mord r_mans (by omega) (by omega)) (cwV 2 hts gX10_costOf_X10_doorsTo rfl rfl rfl (by decide +kernel) ⟨Nat.le_of_ble_eq_true rfl, Nat.le_of_ble_eq_true rfl⟩) hP hD hS hA hK hN [0, 1, 2, 3, 4, 5, 6, 7, 8, 9, 10, 11, 12, 13, 14, 15, 16, 17, 18, 19, 20, 21, 22, 23, 24, 25] [] [0, 1, 2, 3, 4, 5, 6, 7, 8, 9, 10, 11, 12, 13, 14, 15, 16, 17, 18, 19, 20, 21, 22, 23, 24, 25] rfl rfl (by decide) (by decide) (by decide) (fun _ => rfl) (by decide) 0 10 rfl rfl rfl hl.1 rfl (Nat.le_of_ble_eq_true rfl) dX10_costOf_3 ⟨Nat.le_of_ble_eq_true rfl, Nat.le_of_ble_eq_true rfl⟩ (fun r1 u3 H locs h2 hP hD hS => ?_)
  obtain ⟨mfar_c4, emfar_c4⟩ : ∃ f : Nat → Int32, f = (u3.1 0) := ⟨_, rfl⟩
  have hP : va_P (dC, dI) vwCl (wMod cI cZ cQ b mday mdoo mdA mdB mfar_c4 mmar mtel mgai mfal mtop mstr mgho mfai mpto mwal mahd mahf mcho mbes mbyt mtxt mpos mtka mtok mdig mnum mfau mrdm mrea mlin mlne mthg mord mbor mbsm mans mand manr mali) H := by rw [emfar_c4]; exact hP
  have hD : va_D A (wMod cI cZ cQ b mday mdoo mdA mdB mfar_c4 mmar mtel mgai mfal mtop mstr mgho mfai mpto mwal mahd mahf mcho mbes mbyt mtxt mpos mtka mtok mdig mnum mfau mrdm mrea mlin mlne mthg mord mbor mbsm mans mand manr mali) := by rw [emfar_c4]; exact hD
  have h2 : True := by (try rw [emfar_c4]); exact h2
  refine lv_istore_n (lv' := [(2, .int r1), (0, .ref (b 39)), (1, .int ro)]) hx hb dX10_costOf_6 rfl hl (by decide) rfl (fun ls hl => ?_)
  refine lv_iload_n hx hb dX10_costOf_7 rfl (lv_at hl 0 rfl) ?_
  refine lv_iconst (v := (-1)) hx hb dX10_costOf_8 (by decide) ?_
  refine lv_icmp_ne (tgt := 16) hx hb dX10_costOf_9 (by decide) (fun c5 => ?_) (fun c5 => ?_)
  · have dc5 : r1.toInt ≠ (-1) := neC rfl (show ((-1) : Int32).toInt = (-1) from rfl) c5
    refine lv_iconst (v := 2) hx hb dX10_costOf_16 (by decide) ?_
    refine lv_iload_n hx hb dX10_costOf_17 rfl (lv_at hl 0 rfl) ?_
    refine lv_imul hx hb dX10_costOf_18 ?_
    refine lv_aload_n hx hb dX10_costOf_19 rfl (lv_at hl 1 rfl) ?_
    refine lv_iload_n hx hb dX10_costOf_20 rfl (lv_at hl 2 rfl) ?_
    refine rdV (As := [.int ro]) (rest := [.int (2 * r1)]) ⟨hx, hb, hml, hown, hts⟩ (k_X10_standIn l dC dI cI cZ cQ b mday mdoo mdA mdB mfar_c4 mmar mtel mgai mfal mtop mstr mgho mfai mpto mwal mahd mahf mcho mbes mbyt mtxt mpos mtka mtok mdig mnum mfau mrdm mrea mlin mlne mthg mord mbor mbsm mans mand manr mali ro r_mday r_mdoo r_mdA r_mdB r_mmar r_mgai r_mfal r_mtop r_mstr r_mgho r_mfai r_mahd r_mahf r_mcho r_mbyt r_mpos r_mrdm r_mlin r_mthg r_mord r_mans (by omega) (by omega)) (cwV 1 hts gX10_costOf_X10_standIn rfl rfl rfl (by decide +kernel) ⟨Nat.le_of_ble_eq_true rfl, Nat.le_of_ble_eq_true rfl⟩) hP hK hN [0, 1, 2, 3, 4, 5, 6, 7, 8, 9, 10, 11, 12, 13, 14, 15, 16, 17, 18, 19, 20, 21, 22, 23, 24, 25] rfl 0 10 rfl rfl rfl hl.1 rfl (Nat.le_of_ble_eq_true rfl) dX10_costOf_21 ⟨Nat.le_of_ble_eq_true rfl, Nat.le_of_ble_eq_true rfl⟩ (fun r6 h7 => ?_)
    have h7 : True := h7
    refine lv_iadd hx hb dX10_costOf_24 ?_
    exact W.iret (v := (2 * r1) + r6) hx hb hr (fun tq ht hW => ⟨⟨(2 * r1) + r6, (uS [mfar_c4] 0 (fun _ => 0)), rfl, trivial, by rw [ht]; exact hP, hD⟩, hS.F ht⟩) hS.2.2 dX10_costOf_25
  · have dc5 : r1.toInt = (-1) := eqC rfl (show ((-1) : Int32).toInt = (-1) from rfl) c5
    refine lv_iconst (v := (-1)) hx hb dX10_costOf_12 (by decide) ?_
    refine lv_goto (tgt := 25) hx hb dX10_costOf_13 (by decide) ?_
    exact W.iret (v := (-1)) hx hb hr (fun tq ht hW => ⟨⟨(-1), (uS [mfar_c4] 0 (fun _ => 0)), rfl, trivial, by rw [ht]; exact hP, hD⟩, hS.F ht⟩) hS.2.2 dX10_costOf_25
set_option maxHeartbeats 4000000 in
set_option maxRecDepth 100000 in
theorem k_X10_areMinutes (l : Launch) (dC : Nat → ClassId) (dI : Nat → Nat → Nat) (cI cZ cQ : ClassId) (n : Int32) (mi : Int32)  : KR l yX10_areMinutes wsX10_areMinutes { frames := 1, cells := 0, slots := 0, locals := 22 } (dC, dI) (TY cI cZ cQ) (wNil cI cZ cQ) [.int n, .int mi] (fun r : Int32 => ((((r = 1) ∧ (1 ≤ n.toInt) ∧ (n.toInt ≤ 4)) ∨ ((r = 0))))) := by
  refine Met.ofW (cc := cX10_areMinutes) (maxL := 4) (ret := (some .boolean)) (by decide) rfl ?_
  intro p e s m args below meth c s₁ B hml hv
  obtain ⟨rfl, hP, hK, hN⟩ := hv
  have hx := B.exec
  have hb := B.bytes
  have hr := B.returns
  have hts := atoms_spec (ws := wsX10_areMinutes) B.pre
  have hown : s.vm.findClass RX10 = some m.cls := findClass_of_methodNamed B.named
  have hlocks := B.notSynchronized
  have hl := lv_entry ([.int n, .int mi]) (n := 4) (Nat.le_of_ble_eq_true rfl)
  rw [lg_entry_eq]
  generalize (lg_sl ([.int n, .int mi]) ++ List.replicate (4 - (lg_sl ([.int n, .int mi])).length) Slot.unset).toArray = ls at hl ⊢
  have hl : lv_has ls 4 [(0, .int n), (1, .int mi)] := hl
  refine lv_iload_n hx hb dX10_areMinutes_0 rfl (lv_at hl 0 rfl) ?_
  refine lv_iconst (v := 1) hx hb dX10_areMinutes_1 (by decide) ?_
  refine lv_iconst (v := 4) hx hb dX10_areMinutes_2 (by decide) ?_
  refine rdS (As := [.int n, .int 1, .int 4]) (rest := []) ⟨hx, hb, hml, hown, hts⟩ (k_X10_in l dC dI cI cZ cQ n (1 : Int32) (4 : Int32)) (va_cwS 3 hts gX10_areMinutes_X10_in rfl rfl rfl (by decide +kernel) ⟨Nat.le_of_ble_eq_true rfl, Nat.le_of_ble_eq_true rfl⟩) hP hK hN [] rfl rfl hl.1 rfl (Nat.le_of_ble_eq_true rfl) dX10_areMinutes_3 ⟨Nat.le_of_ble_eq_true rfl, Nat.le_of_ble_eq_true rfl⟩ (fun r1 h2 => ?_)
  have h2 : ((((r1 = 1) ∧ ((1) ≤ n.toInt) ∧ (n.toInt ≤ (4))) ∨ ((r1 = 0) ∧ (n.toInt < (1) ∨ (4) < n.toInt)))) := h2
  rcases h2 with (⟨rfl, h2_a0, h2_a1⟩ | ⟨rfl, h2_a0⟩)
  · refine lv_istore_n (lv' := [(2, .int 1), (0, .int n), (1, .int mi)]) hx hb dX10_areMinutes_6 rfl hl (by decide) rfl (fun ls hl => ?_)
    refine lv_iconst (v := 0) hx hb dX10_areMinutes_7 (by decide) ?_
    refine lv_istore_n (lv' := [(3, .int 0), (2, .int 1), (0, .int n), (1, .int mi)]) hx hb dX10_areMinutes_8 rfl hl (by decide) rfl (fun ls hl => ?_)
    have L9 : ∀ (nn : Nat) (y9_2 : Int32) (y9_3 : Int32) (ls : Array Slot), (0 ≤ (y9_3.toInt)) → ((y9_3.toInt) ≤ 4) → (y9_2 = 0 ∨ (y9_2 = 1 ∧ 1 ≤ n.toInt ∧ n.toInt ≤ 4)) → (4 - (y9_3.toInt)).toNat < nn → lv_has ls 4 [(0, .int n), (1, .int mi), (2, .int y9_2), (3, .int y9_3)] → W p l e (headSpec wsX10_areMinutes { frames := 1, cells := 0, slots := 0, locals := 22 }).room s m ([.int n, .int mi] : List Value).toArray below meth c s.heap [] 0 0 (MQ below (QR (fun r : Int32 => ((((r = 1) ∧ (1 ≤ n.toInt) ∧ (n.toInt ≤ 4)) ∨ ((r = 0)))))) ([.int n, .int mi] : List Value).toArray s 0 0 (fun _ => False)) (F0 m 9 ls []) := by
      intro nn
      induction nn with
      | zero =>
        intro y9_2 y9_3 ls i9_0 i9_1 i9_2 hm
        exact absurd hm (Nat.not_lt_zero _)
      | succ nn ih9 =>
        intro y9_2 y9_3 ls i9_0 i9_1 i9_2 hm hl
        refine lv_iload_n hx hb dX10_areMinutes_9 rfl (lv_at hl 3 rfl) ?_
        refine lv_iload_n hx hb dX10_areMinutes_10 rfl (lv_at hl 0 rfl) ?_
        refine lv_icmp_ge (tgt := 44) hx hb dX10_areMinutes_11 (by decide) (fun c3 => ?_) (fun c3 => ?_)
        · have dc3 : n.toInt ≤ y9_3.toInt := leC rfl rfl c3
          refine lv_iload_n hx hb dX10_areMinutes_44 rfl (lv_at hl 2 rfl) ?_
          exact W.zret (v := y9_2) hx hb hr (by (rcases i9_2 with h | h <;> first | (rw [h]; rfl) | (rw [h.1]; rfl))) (fun tq ht hW => ⟨y9_2, rfl, (by (rcases i9_2 with h | h <;> first | exact Or.inr h | exact Or.inl h)), ht⟩) (fun q h => by cases h) dX10_areMinutes_45
        · have dc3 : y9_3.toInt < n.toInt := nleC rfl rfl c3
          refine lv_iload_n hx hb dX10_areMinutes_14 rfl (lv_at hl 2 rfl) ?_
          refine lv_if_eq (tgt := 44) hx hb dX10_areMinutes_15 (by decide) (fun c4 => ?_) (fun c4 => ?_)
          · have dc4 : y9_2.toInt = 0 := eqC rfl (show (0 : Int32).toInt = 0 from rfl) c4
            refine lv_iload_n hx hb dX10_areMinutes_44 rfl (lv_at hl 2 rfl) ?_
            exact W.zret (v := y9_2) hx hb hr (by (rcases i9_2 with h | h <;> first | (rw [h]; rfl) | (rw [h.1]; rfl))) (fun tq ht hW => ⟨y9_2, rfl, (by (rcases i9_2 with h | h <;> first | exact Or.inr h | exact Or.inl h)), ht⟩) (fun q h => by cases h) dX10_areMinutes_45
          · have dc4 : y9_2.toInt ≠ 0 := neC rfl (show (0 : Int32).toInt = 0 from rfl) c4
            have kk : 1 ≤ n.toInt ∧ n.toInt ≤ 4 := (by rcases i9_2 with h | h <;> first | exact h.2 | (exfalso; have := congrArg Int32.toInt h; rw [Int32.toInt_zero] at this; omega))
            refine lv_iload_n hx hb dX10_areMinutes_18 rfl (lv_at hl 1 rfl) ?_
            refine lv_bipush (v := 7) hx hb dX10_areMinutes_19 (by decide) ?_
            refine lv_iload_n hx hb dX10_areMinutes_21 rfl (lv_at hl 3 rfl) ?_
            refine lv_imul hx hb dX10_areMinutes_22 ?_
            have f5 : (7 * y9_3).toInt = (7) * (y9_3.toInt) := mulC (show (7 : Int32).toInt = 7 from rfl) rfl (by omega) (by omega)
            refine lv_ishr hx hb dX10_areMinutes_23 ?_
            refine lv_bipush (v := 127) hx hb dX10_areMinutes_24 (by decide) ?_
            refine lv_iand hx hb dX10_areMinutes_26 ?_
            have f6 := andR (a := (mi >>> ((7 * y9_3) &&& 31))) (m := 127) (M := 127) rfl (by decide)
            refine lv_bipush (v := 100) hx hb dX10_areMinutes_27 (by decide) ?_
            refine lv_icmp_ge (tgt := 36) hx hb dX10_areMinutes_29 (by decide) (fun c7 => ?_) (fun c7 => ?_)
            · have dc7 : 100 ≤ ((mi >>> ((7 * y9_3) &&& 31)) &&& 127).toInt := leC (show (100 : Int32).toInt = 100 from rfl) rfl c7
              refine lv_iconst (v := 0) hx hb dX10_areMinutes_36 (by decide) ?_
              refine lv_istore_n (lv' := [(2, .int 0), (0, .int n), (1, .int mi), (3, .int y9_3)]) hx hb dX10_areMinutes_37 rfl hl (by decide) rfl (fun ls hl => ?_)
              obtain ⟨z8, ez8⟩ : ∃ y : Int32, y = y9_3 + 1 := ⟨_, rfl⟩
              have iz8 : z8.toInt = y9_3.toInt + 1 := by rw [ez8]; exact addC rfl rfl (by omega) (by omega)
              refine lv_iinc (v := z8) (lv' := [(3, .int z8), (2, .int 0), (0, .int n), (1, .int mi)]) hx hb dX10_areMinutes_38 hl (k := 3) rfl (by rw [ez8]; rfl) (by decide) rfl (fun ls hl => ?_)
              refine lv_goto (tgt := 9) hx hb dX10_areMinutes_41 (by decide) ?_
              have kc9 : (0 : Int32).toInt = 0 := rfl
              exact ih9 0 z8 _ (by omega) (by omega) (by (first | exact Or.inl rfl | exact Or.inr ⟨rfl, by omega, by omega⟩)) (by omega) (lv_sub hl [2, 3, 1, 0] rfl)
            · have dc7 : ((mi >>> ((7 * y9_3) &&& 31)) &&& 127).toInt < 100 := nleC (show (100 : Int32).toInt = 100 from rfl) rfl c7
              refine lv_iconst (v := 1) hx hb dX10_areMinutes_32 (by decide) ?_
              refine lv_goto (tgt := 37) hx hb dX10_areMinutes_33 (by decide) ?_
              refine lv_istore_n (lv' := [(2, .int 1), (0, .int n), (1, .int mi), (3, .int y9_3)]) hx hb dX10_areMinutes_37 rfl hl (by decide) rfl (fun ls hl => ?_)
              obtain ⟨z10, ez10⟩ : ∃ y : Int32, y = y9_3 + 1 := ⟨_, rfl⟩
              have iz10 : z10.toInt = y9_3.toInt + 1 := by rw [ez10]; exact addC rfl rfl (by omega) (by omega)
              refine lv_iinc (v := z10) (lv' := [(3, .int z10), (2, .int 1), (0, .int n), (1, .int mi)]) hx hb dX10_areMinutes_38 hl (k := 3) rfl (by rw [ez10]; rfl) (by decide) rfl (fun ls hl => ?_)
              refine lv_goto (tgt := 9) hx hb dX10_areMinutes_41 (by decide) ?_
              have kc11 : (1 : Int32).toInt = 1 := rfl
              exact ih9 1 z10 _ (by omega) (by omega) (by (first | exact Or.inl rfl | exact Or.inr ⟨rfl, by omega, by omega⟩)) (by omega) (lv_sub hl [2, 3, 1, 0] rfl)
    have kc12 : (1 : Int32).toInt = 1 := rfl
    have kc13 : (0 : Int32).toInt = 0 := rfl
    exact L9 _ 1 0 _ (by omega) (by omega) (by (first | exact Or.inl rfl | exact Or.inr ⟨rfl, by omega, by omega⟩)) (Nat.lt_succ_self _) (lv_sub hl [2, 3, 1, 0] rfl)
  · refine lv_istore_n (lv' := [(2, .int 0), (0, .int n), (1, .int mi)]) hx hb dX10_areMinutes_6 rfl hl (by decide) rfl (fun ls hl => ?_)
    refine lv_iconst (v := 0) hx hb dX10_areMinutes_7 (by decide) ?_
    refine lv_istore_n (lv' := [(3, .int 0), (2, .int 0), (0, .int n), (1, .int mi)]) hx hb dX10_areMinutes_8 rfl hl (by decide) rfl (fun ls hl => ?_)
    have L9 : ∀ (nn : Nat) (y9_2 : Int32) (y9_3 : Int32) (ls : Array Slot), (0 ≤ (y9_3.toInt)) → ((y9_3.toInt) ≤ 4) → (y9_2 = 0 ∨ (y9_2 = 1 ∧ 1 ≤ n.toInt ∧ n.toInt ≤ 4)) → (4 - (y9_3.toInt)).toNat < nn → lv_has ls 4 [(0, .int n), (1, .int mi), (2, .int y9_2), (3, .int y9_3)] → W p l e (headSpec wsX10_areMinutes { frames := 1, cells := 0, slots := 0, locals := 22 }).room s m ([.int n, .int mi] : List Value).toArray below meth c s.heap [] 0 0 (MQ below (QR (fun r : Int32 => ((((r = 1) ∧ (1 ≤ n.toInt) ∧ (n.toInt ≤ 4)) ∨ ((r = 0)))))) ([.int n, .int mi] : List Value).toArray s 0 0 (fun _ => False)) (F0 m 9 ls []) := by
      intro nn
      induction nn with
      | zero =>
        intro y9_2 y9_3 ls i9_0 i9_1 i9_2 hm
        exact absurd hm (Nat.not_lt_zero _)
      | succ nn ih9 =>
        intro y9_2 y9_3 ls i9_0 i9_1 i9_2 hm hl
        refine lv_iload_n hx hb dX10_areMinutes_9 rfl (lv_at hl 3 rfl) ?_
        refine lv_iload_n hx hb dX10_areMinutes_10 rfl (lv_at hl 0 rfl) ?_
        refine lv_icmp_ge (tgt := 44) hx hb dX10_areMinutes_11 (by decide) (fun c14 => ?_) (fun c14 => ?_)
        · have dc14 : n.toInt ≤ y9_3.toInt := leC rfl rfl c14
          refine lv_iload_n hx hb dX10_areMinutes_44 rfl (lv_at hl 2 rfl) ?_
          exact W.zret (v := y9_2) hx hb hr (by (rcases i9_2 with h | h <;> first | (rw [h]; rfl) | (rw [h.1]; rfl))) (fun tq ht hW => ⟨y9_2, rfl, (by (rcases i9_2 with h | h <;> first | exact Or.inr h | exact Or.inl h)), ht⟩) (fun q h => by cases h) dX10_areMinutes_45
        · have dc14 : y9_3.toInt < n.toInt := nleC rfl rfl c14
          refine lv_iload_n hx hb dX10_areMinutes_14 rfl (lv_at hl 2 rfl) ?_
          refine lv_if_eq (tgt := 44) hx hb dX10_areMinutes_15 (by decide) (fun c15 => ?_) (fun c15 => ?_)
          · have dc15 : y9_2.toInt = 0 := eqC rfl (show (0 : Int32).toInt = 0 from rfl) c15
            refine lv_iload_n hx hb dX10_areMinutes_44 rfl (lv_at hl 2 rfl) ?_
            exact W.zret (v := y9_2) hx hb hr (by (rcases i9_2 with h | h <;> first | (rw [h]; rfl) | (rw [h.1]; rfl))) (fun tq ht hW => ⟨y9_2, rfl, (by (rcases i9_2 with h | h <;> first | exact Or.inr h | exact Or.inl h)), ht⟩) (fun q h => by cases h) dX10_areMinutes_45
          · have dc15 : y9_2.toInt ≠ 0 := neC rfl (show (0 : Int32).toInt = 0 from rfl) c15
            have kk : 1 ≤ n.toInt ∧ n.toInt ≤ 4 := (by rcases i9_2 with h | h <;> first | exact h.2 | (exfalso; have := congrArg Int32.toInt h; rw [Int32.toInt_zero] at this; omega))
            refine lv_iload_n hx hb dX10_areMinutes_18 rfl (lv_at hl 1 rfl) ?_
            refine lv_bipush (v := 7) hx hb dX10_areMinutes_19 (by decide) ?_
            refine lv_iload_n hx hb dX10_areMinutes_21 rfl (lv_at hl 3 rfl) ?_
            refine lv_imul hx hb dX10_areMinutes_22 ?_
            have f16 : (7 * y9_3).toInt = (7) * (y9_3.toInt) := mulC (show (7 : Int32).toInt = 7 from rfl) rfl (by omega) (by omega)
            refine lv_ishr hx hb dX10_areMinutes_23 ?_
            refine lv_bipush (v := 127) hx hb dX10_areMinutes_24 (by decide) ?_
            refine lv_iand hx hb dX10_areMinutes_26 ?_
            have f17 := andR (a := (mi >>> ((7 * y9_3) &&& 31))) (m := 127) (M := 127) rfl (by decide)
            refine lv_bipush (v := 100) hx hb dX10_areMinutes_27 (by decide) ?_
            refine lv_icmp_ge (tgt := 36) hx hb dX10_areMinutes_29 (by decide) (fun c18 => ?_) (fun c18 => ?_)
            · have dc18 : 100 ≤ ((mi >>> ((7 * y9_3) &&& 31)) &&& 127).toInt := leC (show (100 : Int32).toInt = 100 from rfl) rfl c18
              refine lv_iconst (v := 0) hx hb dX10_areMinutes_36 (by decide) ?_
              refine lv_istore_n (lv' := [(2, .int 0), (0, .int n), (1, .int mi), (3, .int y9_3)]) hx hb dX10_areMinutes_37 rfl hl (by decide) rfl (fun ls hl => ?_)
              obtain ⟨z19, ez19⟩ : ∃ y : Int32, y = y9_3 + 1 := ⟨_, rfl⟩
              have iz19 : z19.toInt = y9_3.toInt + 1 := by rw [ez19]; exact addC rfl rfl (by omega) (by omega)
              refine lv_iinc (v := z19) (lv' := [(3, .int z19), (2, .int 0), (0, .int n), (1, .int mi)]) hx hb dX10_areMinutes_38 hl (k := 3) rfl (by rw [ez19]; rfl) (by decide) rfl (fun ls hl => ?_)
              refine lv_goto (tgt := 9) hx hb dX10_areMinutes_41 (by decide) ?_
              have kc20 : (0 : Int32).toInt = 0 := rfl
              exact ih9 0 z19 _ (by omega) (by omega) (by (first | exact Or.inl rfl | exact Or.inr ⟨rfl, by omega, by omega⟩)) (by omega) (lv_sub hl [2, 3, 1, 0] rfl)
            · have dc18 : ((mi >>> ((7 * y9_3) &&& 31)) &&& 127).toInt < 100 := nleC (show (100 : Int32).toInt = 100 from rfl) rfl c18
              refine lv_iconst (v := 1) hx hb dX10_areMinutes_32 (by decide) ?_
              refine lv_goto (tgt := 37) hx hb dX10_areMinutes_33 (by decide) ?_
              refine lv_istore_n (lv' := [(2, .int 1), (0, .int n), (1, .int mi), (3, .int y9_3)]) hx hb dX10_areMinutes_37 rfl hl (by decide) rfl (fun ls hl => ?_)
              obtain ⟨z21, ez21⟩ : ∃ y : Int32, y = y9_3 + 1 := ⟨_, rfl⟩
              have iz21 : z21.toInt = y9_3.toInt + 1 := by rw [ez21]; exact addC rfl rfl (by omega) (by omega)
              refine lv_iinc (v := z21) (lv' := [(3, .int z21), (2, .int 1), (0, .int n), (1, .int mi)]) hx hb dX10_areMinutes_38 hl (k := 3) rfl (by rw [ez21]; rfl) (by decide) rfl (fun ls hl => ?_)
              refine lv_goto (tgt := 9) hx hb dX10_areMinutes_41 (by decide) ?_
              have kc22 : (1 : Int32).toInt = 1 := rfl
              exact ih9 1 z21 _ (by omega) (by omega) (by (first | exact Or.inl rfl | exact Or.inr ⟨rfl, by omega, by omega⟩)) (by omega) (lv_sub hl [2, 3, 1, 0] rfl)
    have kc23 : (0 : Int32).toInt = 0 := rfl
    exact L9 _ 0 0 _ (by omega) (by omega) (by (first | exact Or.inl rfl | exact Or.inr ⟨rfl, by omega, by omega⟩)) (Nat.lt_succ_self _) (lv_sub hl [2, 3, 1, 0] rfl)
set_option maxHeartbeats 4000000 in
set_option maxRecDepth 100000 in
theorem k_X10_isGone (l : Launch) (dC : Nat → ClassId) (dI : Nat → Nat → Nat) (cI cZ cQ : ClassId) (b : Nat → Nat) (mday : Int32) (mdoo : Int32) (mdA : Nat → Int32) (mdB : Nat → Int32) (mfar : Nat → Int32) (mmar : Nat → Int32) (mtel : Int32) (mgai : Int32) (mfal : Nat → Int32) (mtop : Nat → Int32) (mstr : Nat → Int32) (mgho : Nat → Int32) (mfai : Nat → Int32) (mpto : Nat → Int32) (mwal : Nat → Int32) (mahd : Nat → Int32) (mahf : Nat → Int32) (mcho : Nat → Int32) (mbes : Nat → Int32) (mbyt : Int32) (mtxt : Nat → Int32) (mpos : Int32) (mtka : Int32) (mtok : Int64) (mdig : Int32) (mnum : Int32) (mfau : Int32) (mrdm : Int32) (mrea : Nat → Int32) (mlin : Int32) (mlne : Nat → Int32) (mthg : Nat → Int32) (mord : Nat → Int32) (mbor : Nat → Int32) (mbsm : Int32) (mans : Nat → Int32) (mand : Nat → Int32) (manr : Nat → Int32) (mali : Nat → Int32) (sz : Nat) (k : Int32) (ro : Int32) (mi : Int32) (r_mday : 0 ≤ mday.toInt ∧ mday.toInt ≤ 400) (r_mdoo : 0 ≤ mdoo.toInt ∧ mdoo.toInt ≤ 14) (r_mdA : rg 14 (0) (7) mdA) (r_mdB : rg 14 (0) (7) mdB) (r_mmar : rg 24 (0) (255) mmar) (r_mgai : 0 ≤ mgai.toInt ∧ mgai.toInt ≤ 100) (r_mfal : rg 11 (0) (30) mfal) (r_mtop : rg 48 (-1) (23) mtop) (r_mstr : rg 48 (0) (100) mstr) (r_mgho : rg 48 (-1) (23) mgho) (r_mfai : rg 48 (0) (100) mfai) (r_mahd : rg 240 (0) (100) mahd) (r_mahf : rg 240 (0) (100) mahf) (r_mcho : rg 5 (-1) (9) mcho) (r_mbyt : 0 ≤ mbyt.toInt ∧ mbyt.toInt ≤ 160) (r_mpos : 0 ≤ mpos.toInt ∧ mpos.toInt ≤ 160) (r_mrdm : 0 ≤ mrdm.toInt ∧ mrdm.toInt ≤ 10) (r_mlin : 0 ≤ mlin.toInt ∧ mlin.toInt ≤ 10) (r_mthg : rg 8 (0) (31) mthg) (r_mord : rg 8 (-1) (8) mord) (r_mans : rg 4 (0) (12) mans) (q0 : 0 ≤ k.toInt) (q1 : k.toInt ≤ 3) (q2 : 0 ≤ ro.toInt) (q3 : ro.toInt ≤ 8) : KW l yX10_isGone wsX10_isGone { frames := 3, cells := 0, slots := 0, locals := 73 } (dC, dI) (TY cI cZ cQ) (wMod cI cZ cQ b mday mdoo mdA mdB mfar mmar mtel mgai mfal mtop mstr mgho mfai mpto mwal mahd mahf mcho mbes mbyt mtxt mpos mtka mtok mdig mnum mfau mrdm mrea mlin mlne mthg mord mbor mbsm mans mand manr mali) [.ref (b 39), .int k, .int ro, .int mi] sz 0 0 (fun (r : Int32) (u : US) => ((((r = 1)) ∨ ((r = 0)))) ∧ (rg 240 (0) (100) (u.1 0)) ∧ (rg 240 (0) (100) (u.1 1))) (fun u : US => (wMod cI cZ cQ b mday mdoo mdA mdB (u.1 2) mmar mtel mgai mfal mtop mstr mgho mfai mpto mwal (u.1 0) (u.1 1) mcho mbes mbyt mtxt mpos mtka mtok mdig mnum mfau mrdm mrea mlin mlne mthg mord mbor mbsm mans mand manr mali)) := by
  refine Met.ofW (cc := cX10_isGone) (maxL := 5) (ret := (some .boolean)) (by decide) rfl ?_
  intro p e s m args below meth c s₁ B hml hv
  obtain ⟨rfl, hsz, hP, hK, hD0, hN⟩ := hv
  have hx := B.exec
  have hb := B.bytes
  have hr := B.returns
  have hts := atoms_spec (ws := wsX10_isGone) B.pre
  have hown : s.vm.findClass RX10 = some m.cls := findClass_of_methodNamed B.named
  have hlocks := B.notSynchronized
  have lf50 := hts (.fieldLink RX10 50 "PalaceOfRoomsModel" "ahead" "[I") (by decide +kernel)
  have inX10 : ∀ w ∈ wsX100, w ∈ wsX10_isGone := fun w h => List.mem_cons_of_mem _ (List.mem_append_right _ h)
  have lf53 := hts (.fieldLink RX10 53 "PalaceOfRoomsModel" "aheadFaint" "[I") (by decide +kernel)
  subst hsz
  have hD := hD0.self (sz := s.heap.size)
  generalize hAe : va_A (wMod cI cZ cQ b mday mdoo mdA mdB mfar mmar mtel mgai mfal mtop mstr mgho mfai mpto mwal mahd mahf mcho mbes mbyt mtxt mpos mtka mtok mdig mnum mfau mrdm mrea mlin mlne mthg mord mbor mbsm mans mand manr mali) s.heap.size = A at hD ⊢
  have hA : ∀ q : Nat, s.heap.size ≤ q → A q := fun q h => by rw [← hAe]; exact Or.inr h
  have hS : va_S A s.heap s.heap [] := va_S.rf
  have hl := lv_entry ([.ref (b 39), .int k, .int ro, .int mi]) (n := 5) (Nat.le_of_ble_eq_true rfl)
  rw [lg_entry_eq]
  generalize (lg_sl ([.ref (b 39), .int k, .int ro, .int mi]) ++ List.replicate (5 - (lg_sl ([.ref (b 39), .int k, .int ro, .int mi])).length) Slot.unset).toArray = ls at hl ⊢
  have hl : lv_has ls 5 [(0, .ref (b 39)), (1, .int k), (2, .int ro), (3, .int mi)] := hl
  refine lv_iconst (v := 0) hx hb dX10_isGone_0 (by decide) ?_
  refine lv_istore (lv' := [(4, .int 0), (0, .ref (b 39)), (1, .int k), (2, .int ro), (3, .int mi)]) hx hb dX10_isGone_1 hl (by decide) rfl (fun ls hl => ?_)
  have L3 : ∀ (nn : Nat) (y3_4 : Int32) (mahd_3 : Nat → Int32) (mahf_3 : Nat → Int32) (H : Heap) (locs : List Loc) (ls : Array Slot), (rg 240 (0) (100) mahd_3) → (rg 240 (0) (100) mahf_3) → (0 ≤ (y3_4.toInt)) → ((y3_4.toInt) ≤ 48) → (48 - (y3_4.toInt)).toNat < nn → va_P (dC, dI) vwCl (wMod cI cZ cQ b mday mdoo mdA mdB mfar mmar mtel mgai mfal mtop mstr mgho mfai mpto mwal mahd_3 mahf_3 mcho mbes mbyt mtxt mpos mtka mtok mdig mnum mfau mrdm mrea mlin mlne mthg mord mbor mbsm mans mand manr mali) H → va_D A (wMod cI cZ cQ b mday mdoo mdA mdB mfar mmar mtel mgai mfal mtop mstr mgho mfai mpto mwal mahd_3 mahf_3 mcho mbes mbyt mtxt mpos mtka mtok mdig mnum mfau mrdm mrea mlin mlne mthg mord mbor mbsm mans mand manr mali) → va_S A s.heap H locs → lv_has ls 5 [(0, .ref (b 39)), (1, .int k), (2, .int ro), (3, .int mi), (4, .int y3_4)] → W p l e (headSpec wsX10_isGone { frames := 3, cells := 0, slots := 0, locals := 73 }).room s m ([.ref (b 39), .int k, .int ro, .int mi] : List Value).toArray below meth c H locs 0 0 (MQ below (va_Qi (fun (r : Int32) (u : US) => ((((r = 1)) ∨ ((r = 0)))) ∧ (rg 240 (0) (100) (u.1 0)) ∧ (rg 240 (0) (100) (u.1 1))) (Bw (dC, dI) A (fun u : US => (wMod cI cZ cQ b mday mdoo mdA mdB (u.1 2) mmar mtel mgai mfal mtop mstr mgho mfai mpto mwal (u.1 0) (u.1 1) mcho mbes mbyt mtxt mpos mtka mtok mdig mnum mfau mrdm mrea mlin mlne mthg mord mbor mbsm mans mand manr mali))) A) ([.ref (b 39), .int k, .int ro, .int mi] : List Value).toArray s 0 0 A) (F0 m 3 ls []) := by
    intro nn
    induction nn with
    | zero =>
      intro y3_4 mahd_3 mahf_3 H locs ls r_mahd_3 r_mahf_3 i3_0 i3_1 hm
      exact absurd hm (Nat.not_lt_zero _)
    | succ nn ih3 =>
      intro y3_4 mahd_3 mahf_3 H locs ls r_mahd_3 r_mahf_3 i3_0 i3_1 hm hP hD hS hl
      refine lv_iload hx hb dX10_isGone_3 (lv_at hl 4 rfl) ?_
      refine lv_bipush (v := 48) hx hb dX10_isGone_5 (by decide) ?_
      refine lv_icmp_ge (tgt := 70) hx hb dX10_isGone_7 (by decide) (fun c1 => ?_) (fun c1 => ?_)
      · have dc1 : 48 ≤ y3_4.toInt := leC (show (48 : Int32).toInt = 48 from rfl) rfl c1
        refine lv_iload_n hx hb dX10_isGone_70 rfl (lv_at hl 2 rfl) ?_
        refine lv_bipush (v := 8) hx hb dX10_isGone_71 (by decide) ?_
        refine lv_icmp_ne (tgt := 80) hx hb dX10_isGone_73 (by decide) (fun c2 => ?_) (fun c2 => ?_)
        · have dc2 : ro.toInt ≠ 8 := neC rfl (show (8 : Int32).toInt = 8 from rfl) c2
          refine lv_aload_n hx hb dX10_isGone_80 rfl (lv_at hl 0 rfl) ?_
          refine lv_iload_n hx hb dX10_isGone_81 rfl (lv_at hl 2 rfl) ?_
          refine wrV (As := [.int ro]) (rest := []) (wr := []) (w2 := (fun u : US => (wMod cI cZ cQ b mday mdoo mdA mdB (u.1 0) mmar mtel mgai mfal mtop mstr mgho mfai mpto mwal mahd_3 mahf_3 mcho mbes mbyt mtxt mpos mtka mtok mdig mnum mfau mrdm mrea mlin mlne mthg mord mbor mbsm mans mand manr mali))) ⟨hx, hb, hml, hown, hts⟩ (k_X10_costOf l dC dI cI cZ cQ b mday mdoo mdA mdB mfar mmar mtel mgai mfal mtop mstr mgho mfai mpto mwal mahd_3 mahf_3 mcho mbes mbyt mtxt mpos mtka mtok mdig mnum mfau mrdm mrea mlin mlne mthg mord mbor mbsm mans mand manr mali _ ro r_mday r_mdoo r_mdA r_mdB r_mmar r_mgai r_mfal r_mtop r_mstr r_mgho r_mfai r_mahd_3 r_mahf_3 r_mcho r_mbyt r_mpos r_mrdm r_mlin r_mthg r_mord r_mans (by omega) (by omega)) (cwV 1 hts gX10_isGone_X10_costOf rfl rfl rfl (by decide +kernel) ⟨Nat.le_of_ble_eq_true rfl, Nat.le_of_ble_eq_true rfl⟩) hP hD hS hA hK hN [0, 1, 2, 3, 4, 5, 6, 7, 8, 9, 10, 11, 12, 13, 14, 15, 16, 17, 18, 19, 20, 21, 22, 23, 24, 25] [] [0, 1, 2, 3, 4, 5, 6, 7, 8, 9, 10, 11, 12, 13, 14, 15, 16, 17, 18, 19, 20, 21, 22, 23, 24, 25] rfl rfl (by decide) (by decide) (by decide) (fun _ => rfl) (by decide) 0 10 rfl rfl rfl hl.1 rfl (Nat.le_of_ble_eq_true rfl) dX10_isGone_82 ⟨Nat.le_of_ble_eq_true rfl, Nat.le_of_ble_eq_true rfl⟩ (fun r3 u5 H locs h4 hP hD hS => ?_)
          obtain ⟨mfar_c6, emfar_c6⟩ : ∃ f : Nat → Int32, f = (u5.1 0) := ⟨_, rfl⟩
          have hP : va_P (dC, dI) vwCl (wMod cI cZ cQ b mday mdoo mdA mdB mfar_c6 mmar mtel mgai mfal mtop mstr mgho mfai mpto mwal mahd_3 mahf_3 mcho mbes mbyt mtxt mpos mtka mtok mdig mnum mfau mrdm mrea mlin mlne mthg mord mbor mbsm mans mand manr mali) H := by rw [emfar_c6]; exact hP
          have hD : va_D A (wMod cI cZ cQ b mday mdoo mdA mdB mfar_c6 mmar mtel mgai mfal mtop mstr mgho mfai mpto mwal mahd_3 mahf_3 mcho mbes mbyt mtxt mpos mtka mtok mdig mnum mfau mrdm mrea mlin mlne mthg mord mbor mbsm mans mand manr mali) := by rw [emfar_c6]; exact hD
          have h4 : True := by (try rw [emfar_c6]); exact h4
          refine lv_istore (lv' := [(4, .int r3), (0, .ref (b 39)), (1, .int k), (2, .int ro), (3, .int mi)]) hx hb dX10_isGone_85 hl (by decide) rfl (fun ls hl => ?_)
          refine lv_iload hx hb dX10_isGone_87 (lv_at hl 0 rfl) ?_
          refine lv_iconst (v := (-1)) hx hb dX10_isGone_89 (by decide) ?_
          refine lv_icmp_eq (tgt := 113) hx hb dX10_isGone_90 (by decide) (fun c7 => ?_) (fun c7 => ?_)
          · have dc7 : r3.toInt = (-1) := eqC rfl (show ((-1) : Int32).toInt = (-1) from rfl) c7
            refine lv_iconst (v := 0) hx hb dX10_isGone_113 (by decide) ?_
            exact W.zret (v := 0) hx hb hr (by decide) (fun tq ht hW => ⟨⟨0, (uS [mahd_3, mahf_3, mfar_c6] 0 (fun _ => 0)), rfl, ⟨(Or.inr rfl), r_mahd_3, r_mahf_3⟩, by rw [ht]; exact hP, hD⟩, hS.F ht⟩) hS.2.2 dX10_isGone_114
          · have dc7 : r3.toInt ≠ (-1) := neC rfl (show ((-1) : Int32).toInt = (-1) from rfl) c7
            refine lv_iload hx hb dX10_isGone_93 (lv_at hl 0 rfl) ?_
            refine lv_iload_n hx hb dX10_isGone_95 rfl (lv_at hl 4 rfl) ?_
            refine lv_bipush (v := 7) hx hb dX10_isGone_96 (by decide) ?_
            refine lv_iload_n hx hb dX10_isGone_98 rfl (lv_at hl 2 rfl) ?_
            refine lv_imul hx hb dX10_isGone_99 ?_
            have f8 : (7 * k).toInt = (7) * (k.toInt) := mulC (show (7 : Int32).toInt = 7 from rfl) rfl (by omega) (by omega)
            refine lv_ishr hx hb dX10_isGone_100 ?_
            refine lv_bipush (v := 127) hx hb dX10_isGone_101 (by decide) ?_
            refine lv_iand hx hb dX10_isGone_103 ?_
            have f9 := andR (a := (mi >>> ((7 * k) &&& 31))) (m := 127) (M := 127) rfl (by decide)
            refine lv_icmp_le (tgt := 115) hx hb dX10_isGone_104 (by decide) (fun c10 => ?_) (fun c10 => ?_)
            · have dc10 : r3.toInt ≤ ((mi >>> ((7 * k) &&& 31)) &&& 127).toInt := leC rfl rfl c10
              refine lv_iload_n hx hb dX10_isGone_115 rfl (lv_at hl 3 rfl) ?_
              refine lv_bipush (v := 8) hx hb dX10_isGone_116 (by decide) ?_
              refine lv_icmp_ge (tgt := 134) hx hb dX10_isGone_118 (by decide) (fun c11 => ?_) (fun c11 => ?_)
              · have dc11 : 8 ≤ ro.toInt := leC (show (8 : Int32).toInt = 8 from rfl) rfl c11
                exfalso
                omega
              · have dc11 : ro.toInt < 8 := nleC (show (8 : Int32).toInt = 8 from rfl) rfl c11
                refine lv_aload_n hx hb dX10_isGone_121 rfl (lv_at hl 1 rfl) ?_
                refine lv_iload_n hx hb dX10_isGone_122 rfl (lv_at hl 3 rfl) ?_
                refine lv_bipush (v := 48) hx hb dX10_isGone_123 (by decide) ?_
                refine lv_iload_n hx hb dX10_isGone_125 rfl (lv_at hl 2 rfl) ?_
                refine lv_imul hx hb dX10_isGone_126 ?_
                have f12 : (48 * k).toInt = (48) * (k.toInt) := mulC (show (48 : Int32).toInt = 48 from rfl) rfl (by omega) (by omega)
                refine lv_bipush (v := 48) hx hb dX10_isGone_127 (by decide) ?_
                refine lv_iadd hx hb dX10_isGone_129 ?_
                have f13 : ((48 * k) + 48).toInt = ((48) * (k.toInt)) + (48) := addC f12 (show (48 : Int32).toInt = 48 from rfl) (by omega) (by omega)
                refine wrV (As := [.int ro, .int ((48 * k) + 48)]) (rest := []) (wr := []) (w2 := (fun u : US => (wMod cI cZ cQ b mday mdoo mdA mdB mfar_c6 mmar mtel mgai mfal mtop mstr mgho mfai mpto mwal (u.1 0) mahf_3 mcho mbes mbyt mtxt mpos mtka mtok mdig mnum mfau mrdm mrea mlin mlne mthg mord mbor mbsm mans mand manr mali))) ⟨hx, hb, hml, hown, hts⟩ (k_X10_goWalk l dC dI cI cZ cQ b mday mdoo mdA mdB mfar_c6 mmar mtel mgai mfal mtop mstr mgho mfai mpto mwal mahd_3 mahf_3 mcho mbes mbyt mtxt mpos mtka mtok mdig mnum mfau mrdm mrea mlin mlne mthg mord mbor mbsm mans mand manr mali _ ro ((48 * k) + 48) r_mday r_mdoo r_mdA r_mdB r_mmar r_mgai r_mfal r_mtop r_mstr r_mgho r_mfai r_mahd_3 r_mahf_3 r_mcho r_mbyt r_mpos r_mrdm r_mlin r_mthg r_mord r_mans (by omega) (by omega) (by omega) (by omega)) (cwV 2 hts gX10_isGone_X10_goWalk rfl rfl rfl (by decide +kernel) ⟨Nat.le_of_ble_eq_true rfl, Nat.le_of_ble_eq_true rfl⟩) hP hD hS hA hK hN [0, 1, 2, 3, 4, 5, 6, 7, 8, 9, 10, 11, 12, 13, 14, 15, 16, 17, 18, 19, 20, 21, 22, 23, 24, 25] [] [0, 1, 2, 3, 4, 5, 6, 7, 8, 9, 10, 11, 12, 13, 14, 15, 16, 17, 18, 19, 20, 21, 22, 23, 24, 25] rfl rfl (by decide) (by decide) (by decide) (fun _ => rfl) (by decide) 0 10 rfl rfl rfl hl.1 rfl (Nat.le_of_ble_eq_true rfl) dX10_isGone_130 ⟨Nat.le_of_ble_eq_true rfl, Nat.le_of_ble_eq_true rfl⟩ (fun r14 u16 H locs h15 hP hD hS => ?_)
                obtain ⟨mahd_c17, emahd_c17⟩ : ∃ f : Nat → Int32, f = (u16.1 0) := ⟨_, rfl⟩
                have hP : va_P (dC, dI) vwCl (wMod cI cZ cQ b mday mdoo mdA mdB mfar_c6 mmar mtel mgai mfal mtop mstr mgho mfai mpto mwal mahd_c17 mahf_3 mcho mbes mbyt mtxt mpos mtka mtok mdig mnum mfau mrdm mrea mlin mlne mthg mord mbor mbsm mans mand manr mali) H := by rw [emahd_c17]; exact hP
                have hD : va_D A (wMod cI cZ cQ b mday mdoo mdA mdB mfar_c6 mmar mtel mgai mfal mtop mstr mgho mfai mpto mwal mahd_c17 mahf_3 mcho mbes mbyt mtxt mpos mtka mtok mdig mnum mfau mrdm mrea mlin mlne mthg mord mbor mbsm mans mand manr mali) := by rw [emahd_c17]; exact hD
                have h15 : (rg 240 (0) (100) mahd_c17) := by (try rw [emahd_c17]); exact h15
                have h15_0 := h15
                refine lv_pop hx hb dX10_isGone_133 rfl ?_
                refine lv_aload_n hx hb dX10_isGone_134 rfl (lv_at hl 1 rfl) ?_
                refine lv_bipush (v := 48) hx hb dX10_isGone_135 (by decide) ?_
                refine lv_iload_n hx hb dX10_isGone_137 rfl (lv_at hl 2 rfl) ?_
                refine lv_imul hx hb dX10_isGone_138 ?_
                have f18 : (48 * k).toInt = (48) * (k.toInt) := mulC (show (48 : Int32).toInt = 48 from rfl) rfl (by omega) (by omega)
                refine lv_bipush (v := 48) hx hb dX10_isGone_139 (by decide) ?_
                refine lv_iadd hx hb dX10_isGone_141 ?_
                have f19 : ((48 * k) + 48).toInt = ((48) * (k.toInt)) + (48) := addC f18 (show (48 : Int32).toInt = 48 from rfl) (by omega) (by omega)
                refine lv_bipush (v := 48) hx hb dX10_isGone_142 (by decide) ?_
                refine lv_iload_n hx hb dX10_isGone_144 rfl (lv_at hl 2 rfl) ?_
                refine lv_imul hx hb dX10_isGone_145 ?_
                have f20 : (48 * k).toInt = (48) * (k.toInt) := mulC (show (48 : Int32).toInt = 48 from rfl) rfl (by omega) (by omega)
                refine lv_bipush (v := 48) hx hb dX10_isGone_146 (by decide) ?_
                refine lv_iadd hx hb dX10_isGone_148 ?_
                have f21 : ((48 * k) + 48).toInt = ((48) * (k.toInt)) + (48) := addC f20 (show (48 : Int32).toInt = 48 from rfl) (by omega) (by omega)
                refine wvV (As := [.int ((48 * k) + 48), .int ((48 * k) + 48)]) (rest := []) (wr := []) (w2 := (fun u : US => (wMod cI cZ cQ b mday mdoo mdA mdB mfar_c6 mmar mtel mgai mfal mtop mstr mgho mfai mpto mwal (u.1 0) (u.1 1) mcho mbes mbyt mtxt mpos mtka mtok mdig mnum mfau mrdm mrea mlin mlne mthg mord mbor mbsm mans mand manr mali))) ⟨hx, hb, hml, hown, hts⟩ (k_X10_goDay l dC dI cI cZ cQ b mday mdoo mdA mdB mfar_c6 mmar mtel mgai mfal mtop mstr mgho mfai mpto mwal mahd_c17 mahf_3 mcho mbes mbyt mtxt mpos mtka mtok mdig mnum mfau mrdm mrea mlin mlne mthg mord mbor mbsm mans mand manr mali _ ((48 * k) + 48) ((48 * k) + 48) r_mday r_mdoo r_mdA r_mdB r_mmar r_mgai r_mfal r_mtop r_mstr r_mgho r_mfai h15_0 r_mahf_3 r_mcho r_mbyt r_mpos r_mrdm r_mlin r_mthg r_mord r_mans (by omega) (by omega) (by omega) (by omega)) (cwV 2 hts gX10_isGone_X10_goDay rfl rfl rfl (by decide +kernel) ⟨Nat.le_of_ble_eq_true rfl, Nat.le_of_ble_eq_true rfl⟩) hP hD hS hA hK hN [0, 1, 2, 3, 4, 5, 6, 7, 8, 9, 10, 11, 12, 13, 14, 15, 16, 17, 18, 19, 20, 21, 22, 23, 24, 25] [] [0, 1, 2, 3, 4, 5, 6, 7, 8, 9, 10, 11, 12, 13, 14, 15, 16, 17, 18, 19, 20, 21, 22, 23, 24, 25] rfl rfl (by decide) (by decide) (by decide) (fun _ => rfl) (by decide) 0 10 rfl rfl rfl hl.1 rfl (Nat.le_of_ble_eq_true rfl) dX10_isGone_149 ⟨Nat.le_of_ble_eq_true rfl, Nat.le_of_ble_eq_true rfl⟩ (fun u24 H locs h23 hP hD hS => ?_)
                obtain ⟨mahd_c25, emahd_c25⟩ : ∃ f : Nat → Int32, f = (u24.1 0) := ⟨_, rfl⟩
                obtain ⟨mahf_c26, emahf_c26⟩ : ∃ f : Nat → Int32, f = (u24.1 1) := ⟨_, rfl⟩
                have hP : va_P (dC, dI) vwCl (wMod cI cZ cQ b mday mdoo mdA mdB mfar_c6 mmar mtel mgai mfal mtop mstr mgho mfai mpto mwal mahd_c25 mahf_c26 mcho mbes mbyt mtxt mpos mtka mtok mdig mnum mfau mrdm mrea mlin mlne mthg mord mbor mbsm mans mand manr mali) H := by rw [emahd_c25, emahf_c26]; exact hP
                have hD : va_D A (wMod cI cZ cQ b mday mdoo mdA mdB mfar_c6 mmar mtel mgai mfal mtop mstr mgho mfai mpto mwal mahd_c25 mahf_c26 mcho mbes mbyt mtxt mpos mtka mtok mdig mnum mfau mrdm mrea mlin mlne mthg mord mbor mbsm mans mand manr mali) := by rw [emahd_c25, emahf_c26]; exact hD
                have h23 : (rg 240 (0) (100) mahd_c25) ∧ (rg 240 (0) (100) mahf_c26) := by (try rw [emahd_c25]); (try rw [emahf_c26]); exact h23
                obtain ⟨h23_0, h23_1⟩ := h23
                refine lv_iconst (v := 1) hx hb dX10_isGone_152 (by decide) ?_
                exact W.zret (v := 1) hx hb hr (by decide) (fun tq ht hW => ⟨⟨1, (uS [mahd_c25, mahf_c26, mfar_c6] 0 (fun _ => 0)), rfl, ⟨(Or.inl rfl), h23_0, h23_1⟩, by rw [ht]; exact hP, hD⟩, hS.F ht⟩) hS.2.2 dX10_isGone_153
            · have dc10 : ((mi >>> ((7 * k) &&& 31)) &&& 127).toInt < r3.toInt := nleC rfl rfl c10
              refine lv_iload_n hx hb dX10_isGone_107 rfl (lv_at hl 3 rfl) ?_
              refine lv_bipush (v := 8) hx hb dX10_isGone_108 (by decide) ?_
              refine lv_icmp_ge (tgt := 115) hx hb dX10_isGone_110 (by decide) (fun c27 => ?_) (fun c27 => ?_)
              · have dc27 : 8 ≤ ro.toInt := leC (show (8 : Int32).toInt = 8 from rfl) rfl c27
                exfalso
                omega
              · have dc27 : ro.toInt < 8 := nleC (show (8 : Int32).toInt = 8 from rfl) rfl c27
                refine lv_iconst (v := 0) hx hb dX10_isGone_113 (by decide) ?_
                exact W.zret (v := 0) hx hb hr (by decide) (fun tq ht hW => ⟨⟨0, (uS [mahd_3, mahf_3, mfar_c6] 0 (fun _ => 0)), rfl, ⟨(Or.inr rfl), r_mahd_3, r_mahf_3⟩, by rw [ht]; exact hP, hD⟩, hS.F ht⟩) hS.2.2 dX10_isGone_114
        · have dc2 : ro.toInt = 8 := eqC rfl (show (8 : Int32).toInt = 8 from rfl) c2
          refine lv_iconst (v := 0) hx hb dX10_isGone_76 (by decide) ?_
          refine lv_goto (tgt := 85) hx hb dX10_isGone_77 (by decide) ?_
          refine lv_istore (lv' := [(4, .int 0), (0, .ref (b 39)), (1, .int k), (2, .int ro), (3, .int mi)]) hx hb dX10_isGone_85 hl (by decide) rfl (fun ls hl => ?_)
          refine lv_iload hx hb dX10_isGone_87 (lv_at hl 0 rfl) ?_
          refine lv_iconst (v := (-1)) hx hb dX10_isGone_89 (by decide) ?_
          refine lv_icmp_eq (tgt := 113) hx hb dX10_isGone_90 (by decide) (fun c9 => absurd c9 (by decide)) (fun _ => ?_)
          refine lv_iload hx hb dX10_isGone_93 (lv_at hl 0 rfl) ?_
          refine lv_iload_n hx hb dX10_isGone_95 rfl (lv_at hl 4 rfl) ?_
          refine lv_bipush (v := 7) hx hb dX10_isGone_96 (by decide) ?_
          refine lv_iload_n hx hb dX10_isGone_98 rfl (lv_at hl 2 rfl) ?_
          refine lv_imul hx hb dX10_isGone_99 ?_
          have f28 : (7 * k).toInt = (7) * (k.toInt) := mulC (show (7 : Int32).toInt = 7 from rfl) rfl (by omega) (by omega)
          refine lv_ishr hx hb dX10_isGone_100 ?_
          refine lv_bipush (v := 127) hx hb dX10_isGone_101 (by decide) ?_
          refine lv_iand hx hb dX10_isGone_103 ?_
          have f29 := andR (a := (mi >>> ((7 * k) &&& 31))) (m := 127) (M := 127) rfl (by decide)
          refine lv_icmp_le (tgt := 115) hx hb dX10_isGone_104 (by decide) (fun c30 => ?_) (fun c30 => ?_)
          · have dc30 : 0 ≤ ((mi >>> ((7 * k) &&& 31)) &&& 127).toInt := leC (show (0 : Int32).toInt = 0 from rfl) rfl c30
            refine lv_iload_n hx hb dX10_isGone_115 rfl (lv_at hl 3 rfl) ?_
            refine lv_bipush (v := 8) hx hb dX10_isGone_116 (by decide) ?_
            refine lv_icmp_ge (tgt := 134) hx hb dX10_isGone_118 (by decide) (fun c31 => ?_) (fun c31 => ?_)
            · have dc31 : 8 ≤ ro.toInt := leC (show (8 : Int32).toInt = 8 from rfl) rfl c31
              refine lv_aload_n hx hb dX10_isGone_134 rfl (lv_at hl 1 rfl) ?_
              refine lv_bipush (v := 48) hx hb dX10_isGone_135 (by decide) ?_
              refine lv_iload_n hx hb dX10_isGone_137 rfl (lv_at hl 2 rfl) ?_
              refine lv_imul hx hb dX10_isGone_138 ?_
              have f32 : (48 * k).toInt = (48) * (k.toInt) := mulC (show (48 : Int32).toInt = 48 from rfl) rfl (by omega) (by omega)
              refine lv_bipush (v := 48) hx hb dX10_isGone_139 (by decide) ?_
              refine lv_iadd hx hb dX10_isGone_141 ?_
              have f33 : ((48 * k) + 48).toInt = ((48) * (k.toInt)) + (48) := addC f32 (show (48 : Int32).toInt = 48 from rfl) (by omega) (by omega)
              refine lv_bipush (v := 48) hx hb dX10_isGone_142 (by decide) ?_
              refine lv_iload_n hx hb dX10_isGone_144 rfl (lv_at hl 2 rfl) ?_
              refine lv_imul hx hb dX10_isGone_145 ?_
              have f34 : (48 * k).toInt = (48) * (k.toInt) := mulC (show (48 : Int32).toInt = 48 from rfl) rfl (by omega) (by omega)
              refine lv_bipush (v := 48) hx hb dX10_isGone_146 (by decide) ?_
              refine lv_iadd hx hb dX10_isGone_148 ?_
              have f35 : ((48 * k) + 48).toInt = ((48) * (k.toInt)) + (48) := addC f34 (show (48 : Int32).toInt = 48 from rfl) (by omega) (by omega)
              refine wvV (As := [.int ((48 * k) + 48), .int ((48 * k) + 48)]) (rest := []) (wr := []) (w2 := (fun u : US => (wMod cI cZ cQ b mday mdoo mdA mdB mfar mmar mtel mgai mfal mtop mstr mgho mfai mpto mwal (u.1 0) (u.1 1) mcho mbes mbyt mtxt mpos mtka mtok mdig mnum mfau mrdm mrea mlin mlne mthg mord mbor mbsm mans mand manr mali))) ⟨hx, hb, hml, hown, hts⟩ (k_X10_goDay l dC dI cI cZ cQ b mday mdoo mdA mdB mfar mmar mtel mgai mfal mtop mstr mgho mfai mpto mwal mahd_3 mahf_3 mcho mbes mbyt mtxt mpos mtka mtok mdig mnum mfau mrdm mrea mlin mlne mthg mord mbor mbsm mans mand manr mali _ ((48 * k) + 48) ((48 * k) + 48) r_mday r_mdoo r_mdA r_mdB r_mmar r_mgai r_mfal r_mtop r_mstr r_mgho r_mfai r_mahd_3 r_mahf_3 r_mcho r_mbyt r_mpos r_mrdm r_mlin r_mthg r_mord r_mans (by omega) (by omega) (by omega) (by omega)) (cwV 2 hts gX10_isGone_X10_goDay rfl rfl rfl (by decide +kernel) ⟨Nat.le_of_ble_eq_true rfl, Nat.le_of_ble_eq_true rfl⟩) hP hD hS hA hK hN [0, 1, 2, 3, 4, 5, 6, 7, 8, 9, 10, 11, 12, 13, 14, 15, 16, 17, 18, 19, 20, 21, 22, 23, 24, 25] [] [0, 1, 2, 3, 4, 5, 6, 7, 8, 9, 10, 11, 12, 13, 14, 15, 16, 17, 18, 19, 20, 21, 22, 23, 24, 25] rfl rfl (by decide) (by decide) (by decide) (fun _ => rfl) (by decide) 0 10 rfl rfl rfl hl.1 rfl (Nat.le_of_ble_eq_true rfl) dX10_isGone_149 ⟨Nat.le_of_ble_eq_true rfl, Nat.le_of_ble_eq_true rfl⟩ (fun u38 H locs h37 hP hD hS => ?_)
              obtain ⟨mahd_c39, emahd_c39⟩ : ∃ f : Nat → Int32, f = (u38.1 0) := ⟨_, rfl⟩
              obtain ⟨mahf_c40, emahf_c40⟩ : ∃ f : Nat → Int32, f = (u38.1 1) := ⟨_, rfl⟩
              have hP : va_P (dC, dI) vwCl (wMod cI cZ cQ b mday mdoo mdA mdB mfar mmar mtel mgai mfal mtop mstr mgho mfai mpto mwal mahd_c39 mahf_c40 mcho mbes mbyt mtxt mpos mtka mtok mdig mnum mfau mrdm mrea mlin mlne mthg mord mbor mbsm mans mand manr mali) H := by rw [emahd_c39, emahf_c40]; exact hP
              have hD : va_D A (wMod cI cZ cQ b mday mdoo mdA mdB mfar mmar mtel mgai mfal mtop mstr mgho mfai mpto mwal mahd_c39 mahf_c40 mcho mbes mbyt mtxt mpos mtka mtok mdig mnum mfau mrdm mrea mlin mlne mthg mord mbor mbsm mans mand manr mali) := by rw [emahd_c39, emahf_c40]; exact hD
              have h37 : (rg 240 (0) (100) mahd_c39) ∧ (rg 240 (0) (100) mahf_c40) := by (try rw [emahd_c39]); (try rw [emahf_c40]); exact h37
              obtain ⟨h37_0, h37_1⟩ := h37
              refine lv_iconst (v := 1) hx hb dX10_isGone_152 (by decide) ?_
              exact W.zret (v := 1) hx hb hr (by decide) (fun tq ht hW => ⟨⟨1, (uS [mahd_c39, mahf_c40, mfar] 0 (fun _ => 0)), rfl, ⟨(Or.inl rfl), h37_0, h37_1⟩, by rw [ht]; exact hP, hD⟩, hS.F ht⟩) hS.2.2 dX10_isGone_153
            · have dc31 : ro.toInt < 8 := nleC (show (8 : Int32).toInt = 8 from rfl) rfl c31
              exfalso
              omega
          · have dc30 : ((mi >>> ((7 * k) &&& 31)) &&& 127).toInt < 0 := nleC (show (0 : Int32).toInt = 0 from rfl) rfl c30
            exfalso
            omega
      · have dc1 : y3_4.toInt < 48 := nleC (show (48 : Int32).toInt = 48 from rfl) rfl c1
        refine lv_aload_n hx hb dX10_isGone_10 rfl (lv_at hl 0 rfl) ?_
        refine va_get (D := (dC, dI)) (ci := 10) (v := .ref (b 15)) (C := RX10) (T := TX10) (N := 39) hx hb hts inX10 hown hK hP 0 rfl rfl 15 (by decide) lf50 (fun _ h9 => h9) rfl dX10_isGone_11 ?_
        refine lv_bipush (v := 48) hx hb dX10_isGone_14 (by decide) ?_
        refine lv_iload_n hx hb dX10_isGone_16 rfl (lv_at hl 1 rfl) ?_
        refine lv_imul hx hb dX10_isGone_17 ?_
        have f41 : (48 * k).toInt = (48) * (k.toInt) := mulC (show (48 : Int32).toInt = 48 from rfl) rfl (by omega) (by omega)
        refine lv_bipush (v := 48) hx hb dX10_isGone_18 (by decide) ?_
        refine lv_iadd hx hb dX10_isGone_20 ?_
        have f42 : ((48 * k) + 48).toInt = ((48) * (k.toInt)) + (48) := addC f41 (show (48 : Int32).toInt = 48 from rfl) (by omega) (by omega)
        refine lv_iload hx hb dX10_isGone_21 (lv_at hl 4 rfl) ?_
        refine lv_iadd hx hb dX10_isGone_23 ?_
        have f43 : (((48 * k) + 48) + y3_4).toInt = (((48) * (k.toInt)) + (48)) + (y3_4.toInt) := addC f42 rfl (by omega) (by omega)
        refine lv_aload_n hx hb dX10_isGone_24 rfl (lv_at hl 0 rfl) ?_
        refine va_get (D := (dC, dI)) (ci := 10) (v := .ref (b 15)) (C := RX10) (T := TX10) (N := 39) hx hb hts inX10 hown hK hP 0 rfl rfl 15 (by decide) lf50 (fun _ h9 => h9) rfl dX10_isGone_25 ?_
        refine lv_bipush (v := 48) hx hb dX10_isGone_28 (by decide) ?_
        refine lv_iload_n hx hb dX10_isGone_30 rfl (lv_at hl 1 rfl) ?_
        refine lv_imul hx hb dX10_isGone_31 ?_
        have f44 : (48 * k).toInt = (48) * (k.toInt) := mulC (show (48 : Int32).toInt = 48 from rfl) rfl (by omega) (by omega)
        refine lv_iload hx hb dX10_isGone_32 (lv_at hl 4 rfl) ?_
        refine lv_iadd hx hb dX10_isGone_34 ?_
        have f45 : ((48 * k) + y3_4).toInt = ((48) * (k.toInt)) + (y3_4.toInt) := addC f44 rfl (by omega) (by omega)
        have b46 : vp_in ((48 * k) + y3_4) 240 := inC f45 (by omega) (by omega)
        refine va_iald hx hb hK hP 12 0 rfl rfl b46 dX10_isGone_35 ?_
        have g47 : 0 ≤ (mahd_3 ((48 * k) + y3_4).toNatClampNeg).toInt ∧ (mahd_3 ((48 * k) + y3_4).toNatClampNeg).toInt ≤ 100 := rg_at r_mahd_3 b46
        refine lv_topi (fun x48 ex48 => ?_)
        have ix48 : x48.toInt = (mahd_3 ((48 * k) + y3_4).toNatClampNeg).toInt := by rw [ex48]
        have b49 : vp_in (((48 * k) + 48) + y3_4) 240 := inC f43 (by omega) (by omega)
        have g50 : rg 240 (0) (100) (upd mahd_3 (((48 * k) + 48) + y3_4).toNatClampNeg x48) := rg_upd r_mahd_3 rfl (by omega) (by omega)
        refine va_iast hx hb hK hP hD hS 12 0 rfl rfl b49 dX10_isGone_36 (fun H locs hP hD hS => ?_)
        obtain ⟨mahd_u51, emahd_u51⟩ : ∃ f : Nat → Int32, f = upd mahd_3 (((48 * k) + 48) + y3_4).toNatClampNeg x48 := ⟨_, rfl⟩
        have rmahd_u51 : rg 240 (0) (100) mahd_u51 := by rw [emahd_u51]; exact g50
        have hP : va_P (dC, dI) vwCl (wMod cI cZ cQ b mday mdoo mdA mdB mfar mmar mtel mgai mfal mtop mstr mgho mfai mpto mwal mahd_u51 mahf_3 mcho mbes mbyt mtxt mpos mtka mtok mdig mnum mfau mrdm mrea mlin mlne mthg mord mbor mbsm mans mand manr mali) H := by rw [emahd_u51]; exact hP
        have hD : va_D A (wMod cI cZ cQ b mday mdoo mdA mdB mfar mmar mtel mgai mfal mtop mstr mgho mfai mpto mwal mahd_u51 mahf_3 mcho mbes mbyt mtxt mpos mtka mtok mdig mnum mfau mrdm mrea mlin mlne mthg mord mbor mbsm mans mand manr mali) := by rw [emahd_u51]; exact hD
        refine lv_aload_n hx hb dX10_isGone_37 rfl (lv_at hl 0 rfl) ?_
        refine va_get (D := (dC, dI)) (ci := 10) (v := .ref (b 16)) (C := RX10) (T := TX10) (N := 39) hx hb hts inX10 hown hK hP 0 rfl rfl 16 (by decide) lf53 (fun _ h9 => h9) rfl dX10_isGone_38 ?_
        refine lv_bipush (v := 48) hx hb dX10_isGone_41 (by decide) ?_
        refine lv_iload_n hx hb dX10_isGone_43 rfl (lv_at hl 1 rfl) ?_
        refine lv_imul hx hb dX10_isGone_44 ?_
        have f52 : (48 * k).toInt = (48) * (k.toInt) := mulC (show (48 : Int32).toInt = 48 from rfl) rfl (by omega) (by omega)
        refine lv_bipush (v := 48) hx hb dX10_isGone_45 (by decide) ?_
        refine lv_iadd hx hb dX10_isGone_47 ?_
        have f53 : ((48 * k) + 48).toInt = ((48) * (k.toInt)) + (48) := addC f52 (show (48 : Int32).toInt = 48 from rfl) (by omega) (by omega)
        refine lv_iload hx hb dX10_isGone_48 (lv_at hl 4 rfl) ?_
        refine lv_iadd hx hb dX10_isGone_50 ?_
        have f54 : (((48 * k) + 48) + y3_4).toInt = (((48) * (k.toInt)) + (48)) + (y3_4.toInt) := addC f53 rfl (by omega) (by omega)
        refine lv_aload_n hx hb dX10_isGone_51 rfl (lv_at hl 0 rfl) ?_
        refine va_get (D := (dC, dI)) (ci := 10) (v := .ref (b 16)) (C := RX10) (T := TX10) (N := 39) hx hb hts inX10 hown hK hP 0 rfl rfl 16 (by decide) lf53 (fun _ h9 => h9) rfl dX10_isGone_52 ?_
        refine lv_bipush (v := 48) hx hb dX10_isGone_55 (by decide) ?_
        refine lv_iload_n hx hb dX10_isGone_57 rfl (lv_at hl 1 rfl) ?_
        refine lv_imul hx hb dX10_isGone_58 ?_
        have f55 : (48 * k).toInt = (48) * (k.toInt) := mulC (show (48 : Int32).toInt = 48 from rfl) rfl (by omega) (by omega)
        refine lv_iload hx hb dX10_isGone_59 (lv_at hl 4 rfl) ?_
        refine lv_iadd hx hb dX10_isGone_61 ?_
        have f56 : ((48 * k) + y3_4).toInt = ((48) * (k.toInt)) + (y3_4.toInt) := addC f55 rfl (by omega) (by omega)
        have b57 : vp_in ((48 * k) + y3_4) 240 := inC f56 (by omega) (by omega)
        refine va_iald hx hb hK hP 13 0 rfl rfl b57 dX10_isGone_62 ?_
        have g58 : 0 ≤ (mahf_3 ((48 * k) + y3_4).toNatClampNeg).toInt ∧ (mahf_3 ((48 * k) + y3_4).toNatClampNeg).toInt ≤ 100 := rg_at r_mahf_3 b57
        refine lv_topi (fun x59 ex59 => ?_)
        have ix59 : x59.toInt = (mahf_3 ((48 * k) + y3_4).toNatClampNeg).toInt := by rw [ex59]
        have b60 : vp_in (((48 * k) + 48) + y3_4) 240 := inC f54 (by omega) (by omega)
        have g61 : rg 240 (0) (100) (upd mahf_3 (((48 * k) + 48) + y3_4).toNatClampNeg x59) := rg_upd r_mahf_3 rfl (by omega) (by omega)
        refine va_iast hx hb hK hP hD hS 13 0 rfl rfl b60 dX10_isGone_63 (fun H locs hP hD hS => ?_)
        obtain ⟨mahf_u62, emahf_u62⟩ : ∃ f : Nat → Int32, f = upd mahf_3 (((48 * k) + 48) + y3_4).toNatClampNeg x59 := ⟨_, rfl⟩
        have rmahf_u62 : rg 240 (0) (100) mahf_u62 := by rw [emahf_u62]; exact g61
        have hP : va_P (dC, dI) vwCl (wMod cI cZ cQ b mday mdoo mdA mdB mfar mmar mtel mgai mfal mtop mstr mgho mfai mpto mwal mahd_u51 mahf_u62 mcho mbes mbyt mtxt mpos mtka mtok mdig mnum mfau mrdm mrea mlin mlne mthg mord mbor mbsm mans mand manr mali) H := by rw [emahf_u62]; exact hP
        have hD : va_D A (wMod cI cZ cQ b mday mdoo mdA mdB mfar mmar mtel mgai mfal mtop mstr mgho mfai mpto mwal mahd_u51 mahf_u62 mcho mbes mbyt mtxt mpos mtka mtok mdig mnum mfau mrdm mrea mlin mlne mthg mord mbor mbsm mans mand manr mali) := by rw [emahf_u62]; exact hD
        obtain ⟨z63, ez63⟩ : ∃ y : Int32, y = y3_4 + 1 := ⟨_, rfl⟩
        have iz63 : z63.toInt = y3_4.toInt + 1 := by rw [ez63]; exact addC rfl rfl (by omega) (by omega)
        refine lv_iinc (v := z63) (lv' := [(4, .int z63), (0, .ref (b 39)), (1, .int k), (2, .int ro), (3, .int mi)]) hx hb dX10_isGone_64 hl (k := 4) rfl (by rw [ez63]; rfl) (by decide) rfl (fun ls hl => ?_)
        refine lv_goto (tgt := 3) hx hb dX10_isGone_67 (by decide) ?_
        exact ih3 z63 mahd_u51 mahf_u62 _ _ _ rmahd_u51 rmahf_u62 (by omega) (by omega) (by omega) hP hD hS (lv_sub hl [1, 2, 3, 4, 0] rfl)
  have kc64 : (0 : Int32).toInt = 0 := rfl
  exact L3 _ 0 mahd mahf _ _ _ r_mahd r_mahf (by omega) (by omega) (Nat.lt_succ_self _) hP hD hS (lv_sub hl [1, 2, 3, 4, 0] rfl)
set_option maxHeartbeats 4000000 in
set_option maxRecDepth 100000 in
theorem k_X10_allAt (l : Launch) (dC : Nat → ClassId) (dI : Nat → Nat → Nat) (cI cZ cQ : ClassId) (b : Nat → Nat) (mday : Int32) (mdoo : Int32) (mdA : Nat → Int32) (mdB : Nat → Int32) (mfar : Nat → Int32) (mmar : Nat → Int32) (mtel : Int32) (mgai : Int32) (mfal : Nat → Int32) (mtop : Nat → Int32) (mstr : Nat → Int32) (mgho : Nat → Int32) (mfai : Nat → Int32) (mpto : Nat → Int32) (mwal : Nat → Int32) (mahd : Nat → Int32) (mahf : Nat → Int32) (mcho : Nat → Int32) (mbes : Nat → Int32) (mbyt : Int32) (mtxt : Nat → Int32) (mpos : Int32) (mtka : Int32) (mtok : Int64) (mdig : Int32) (mnum : Int32) (mfau : Int32) (mrdm : Int32) (mrea : Nat → Int32) (mlin : Int32) (mlne : Nat → Int32) (mthg : Nat → Int32) (mord : Nat → Int32) (mbor : Nat → Int32) (mbsm : Int32) (mans : Nat → Int32) (mand : Nat → Int32) (manr : Nat → Int32) (mali : Nat → Int32) (at_ : Int32) (r_mday : 0 ≤ mday.toInt ∧ mday.toInt ≤ 400) (r_mdoo : 0 ≤ mdoo.toInt ∧ mdoo.toInt ≤ 14) (r_mdA : rg 14 (0) (7) mdA) (r_mdB : rg 14 (0) (7) mdB) (r_mmar : rg 24 (0) (255) mmar) (r_mgai : 0 ≤ mgai.toInt ∧ mgai.toInt ≤ 100) (r_mfal : rg 11 (0) (30) mfal) (r_mtop : rg 48 (-1) (23) mtop) (r_mstr : rg 48 (0) (100) mstr) (r_mgho : rg 48 (-1) (23) mgho) (r_mfai : rg 48 (0) (100) mfai) (r_mahd : rg 240 (0) (100) mahd) (r_mahf : rg 240 (0) (100) mahf) (r_mcho : rg 5 (-1) (9) mcho) (r_mbyt : 0 ≤ mbyt.toInt ∧ mbyt.toInt ≤ 160) (r_mpos : 0 ≤ mpos.toInt ∧ mpos.toInt ≤ 160) (r_mrdm : 0 ≤ mrdm.toInt ∧ mrdm.toInt ≤ 10) (r_mlin : 0 ≤ mlin.toInt ∧ mlin.toInt ≤ 10) (r_mthg : rg 8 (0) (31) mthg) (r_mord : rg 8 (-1) (8) mord) (r_mans : rg 4 (0) (12) mans) (q0 : 0 ≤ at_.toInt) (q1 : at_.toInt ≤ 192) : KR l yX10_allAt wsX10_allAt { frames := 0, cells := 0, slots := 0, locals := 0 } (dC, dI) (TY cI cZ cQ) (wMod cI cZ cQ b mday mdoo mdA mdB mfar mmar mtel mgai mfal mtop mstr mgho mfai mpto mwal mahd mahf mcho mbes mbyt mtxt mpos mtka mtok mdig mnum mfau mrdm mrea mlin mlne mthg mord mbor mbsm mans mand manr mali) [.ref (b 39), .int at_] (fun r : Int32 => True) := by
  refine Met.ofW (cc := cX10_allAt) (maxL := 4) (ret := (some .int)) (by decide) rfl ?_
  intro p e s m args below meth c s₁ B hml hv
  obtain ⟨rfl, hP, hK, hN⟩ := hv
  have hx := B.exec
  have hb := B.bytes
  have hr := B.returns
  have hts := atoms_spec (ws := wsX10_allAt) B.pre
  have hown : s.vm.findClass RX10 = some m.cls := findClass_of_methodNamed B.named
  have hlocks := B.notSynchronized
  have lf32 := hts (.fieldLink RX10 32 "PalaceOfRoomsModel" "top" "[I") (by decide +kernel)
  have inX10 : ∀ w ∈ wsX100, w ∈ wsX10_allAt := by decide +kernel
  have lf50 := hts (.fieldLink RX10 50 "PalaceOfRoomsModel" "ahead" "[I") (by decide +kernel)
  have hl := lv_entry ([.ref (b 39), .int at_]) (n := 4) (Nat.le_of_ble_eq_true rfl)
  rw [lg_entry_eq]
  generalize (lg_sl ([.ref (b 39), .int at_]) ++ List.replicate (4 - (lg_sl ([.ref (b 39), .int at_])).length) Slot.unset).toArray = ls at hl ⊢
  have hl : lv_has ls 4 [(0, .ref (b 39)), (1, .int at_)] := hl
  refine lv_iconst (v := 0) hx hb dX10_allAt_0 (by decide) ?_
  refine lv_istore_n (lv' := [(2, .int 0), (0, .ref (b 39)), (1, .int at_)]) hx hb dX10_allAt_1 rfl hl (by decide) rfl (fun ls hl => ?_)
  refine lv_iconst (v := 0) hx hb dX10_allAt_2 (by decide) ?_
  refine lv_istore_n (lv' := [(3, .int 0), (2, .int 0), (0, .ref (b 39)), (1, .int at_)]) hx hb dX10_allAt_3 rfl hl (by decide) rfl (fun ls hl => ?_)
  have L4 : ∀ (nn : Nat) (y4_2 : Int32) (y4_3 : Int32) (ls : Array Slot), (0 ≤ (y4_3.toInt)) → ((y4_3.toInt) ≤ 48) → (48 - (y4_3.toInt)).toNat < nn → lv_has ls 4 [(0, .ref (b 39)), (1, .int at_), (2, .int y4_2), (3, .int y4_3)] → W p l e (headSpec wsX10_allAt { frames := 0, cells := 0, slots := 0, locals := 0 }).room s m ([.ref (b 39), .int at_] : List Value).toArray below meth c s.heap [] 0 0 (MQ below (QR (fun r : Int32 => True)) ([.ref (b 39), .int at_] : List Value).toArray s 0 0 (fun _ => False)) (F0 m 4 ls []) := by
    intro nn
    induction nn with
    | zero =>
      intro y4_2 y4_3 ls i4_0 i4_1 hm
      exact absurd hm (Nat.not_lt_zero _)
    | succ nn ih4 =>
      intro y4_2 y4_3 ls i4_0 i4_1 hm hl
      refine lv_iload_n hx hb dX10_allAt_4 rfl (lv_at hl 3 rfl) ?_
      refine lv_bipush (v := 48) hx hb dX10_allAt_5 (by decide) ?_
      refine lv_icmp_ge (tgt := 41) hx hb dX10_allAt_7 (by decide) (fun c1 => ?_) (fun c1 => ?_)
      · have dc1 : 48 ≤ y4_3.toInt := leC (show (48 : Int32).toInt = 48 from rfl) rfl c1
        refine lv_iload_n hx hb dX10_allAt_41 rfl (lv_at hl 2 rfl) ?_
        exact W.iret (v := y4_2) hx hb hr (fun tq ht hW => ⟨y4_2, rfl, trivial, ht⟩) (fun q h => by cases h) dX10_allAt_42
      · have dc1 : y4_3.toInt < 48 := nleC (show (48 : Int32).toInt = 48 from rfl) rfl c1
        refine lv_iload_n hx hb dX10_allAt_10 rfl (lv_at hl 2 rfl) ?_
        refine lv_aload_n hx hb dX10_allAt_11 rfl (lv_at hl 0 rfl) ?_
        refine va_get (D := (dC, dI)) (ci := 10) (v := .ref (b 9)) (C := RX10) (T := TX10) (N := 39) hx hb hts inX10 hown hK hP 0 rfl rfl 9 (by decide) lf32 (fun _ h9 => h9) rfl dX10_allAt_12 ?_
        refine lv_iload_n hx hb dX10_allAt_15 rfl (lv_at hl 3 rfl) ?_
        have b2 : vp_in y4_3 48 := inC rfl (by omega) (by omega)
        refine va_iald hx hb hK hP 6 0 rfl rfl b2 dX10_allAt_16 ?_
        have g3 : -1 ≤ (mtop y4_3.toNatClampNeg).toInt ∧ (mtop y4_3.toNatClampNeg).toInt ≤ 23 := rg_at r_mtop b2
        refine lv_iconst (v := (-1)) hx hb dX10_allAt_17 (by decide) ?_
        refine lv_icmp_ne (tgt := 25) hx hb dX10_allAt_18 (by decide) (fun c4 => ?_) (fun c4 => ?_)
        · have dc4 : (mtop y4_3.toNatClampNeg).toInt ≠ (-1) := neC rfl (show ((-1) : Int32).toInt = (-1) from rfl) c4
          refine lv_aload_n hx hb dX10_allAt_25 rfl (lv_at hl 0 rfl) ?_
          refine va_get (D := (dC, dI)) (ci := 10) (v := .ref (b 15)) (C := RX10) (T := TX10) (N := 39) hx hb hts inX10 hown hK hP 0 rfl rfl 15 (by decide) lf50 (fun _ h9 => h9) rfl dX10_allAt_26 ?_
          refine lv_iload_n hx hb dX10_allAt_29 rfl (lv_at hl 1 rfl) ?_
          refine lv_iload_n hx hb dX10_allAt_30 rfl (lv_at hl 3 rfl) ?_
          refine lv_iadd hx hb dX10_allAt_31 ?_
          have f5 : (at_ + y4_3).toInt = (at_.toInt) + (y4_3.toInt) := addC rfl rfl (by omega) (by omega)
          have b6 : vp_in (at_ + y4_3) 240 := inC f5 (by omega) (by omega)
          refine va_iald hx hb hK hP 12 0 rfl rfl b6 dX10_allAt_32 ?_
          have g7 : 0 ≤ (mahd (at_ + y4_3).toNatClampNeg).toInt ∧ (mahd (at_ + y4_3).toNatClampNeg).toInt ≤ 100 := rg_at r_mahd b6
          refine lv_iadd hx hb dX10_allAt_33 ?_
          refine lv_topi (fun x8 ex8 => ?_)
          have ix8 : x8.toInt = (y4_2 + (mahd (at_ + y4_3).toNatClampNeg)).toInt := by rw [ex8]
          refine lv_istore_n (lv' := [(2, .int x8), (0, .ref (b 39)), (1, .int at_), (3, .int y4_3)]) hx hb dX10_allAt_34 rfl hl (by decide) rfl (fun ls hl => ?_)
          obtain ⟨z9, ez9⟩ : ∃ y : Int32, y = y4_3 + 1 := ⟨_, rfl⟩
          have iz9 : z9.toInt = y4_3.toInt + 1 := by rw [ez9]; exact addC rfl rfl (by omega) (by omega)
          refine lv_iinc (v := z9) (lv' := [(3, .int z9), (2, .int x8), (0, .ref (b 39)), (1, .int at_)]) hx hb dX10_allAt_35 hl (k := 3) rfl (by rw [ez9]; rfl) (by decide) rfl (fun ls hl => ?_)
          refine lv_goto (tgt := 4) hx hb dX10_allAt_38 (by decide) ?_
          exact ih4 x8 z9 _ (by omega) (by omega) (by omega) (lv_sub hl [2, 3, 1, 0] rfl)
        · have dc4 : (mtop y4_3.toNatClampNeg).toInt = (-1) := eqC rfl (show ((-1) : Int32).toInt = (-1) from rfl) c4
          refine lv_iconst (v := 0) hx hb dX10_allAt_21 (by decide) ?_
          refine lv_goto (tgt := 33) hx hb dX10_allAt_22 (by decide) ?_
          refine lv_iadd hx hb dX10_allAt_33 ?_
          refine lv_topi (fun x10 ex10 => ?_)
          have ix10 : x10.toInt = (y4_2 + 0).toInt := by rw [ex10]
          refine lv_istore_n (lv' := [(2, .int x10), (0, .ref (b 39)), (1, .int at_), (3, .int y4_3)]) hx hb dX10_allAt_34 rfl hl (by decide) rfl (fun ls hl => ?_)
          obtain ⟨z11, ez11⟩ : ∃ y : Int32, y = y4_3 + 1 := ⟨_, rfl⟩
          have iz11 : z11.toInt = y4_3.toInt + 1 := by rw [ez11]; exact addC rfl rfl (by omega) (by omega)
          refine lv_iinc (v := z11) (lv' := [(3, .int z11), (2, .int x10), (0, .ref (b 39)), (1, .int at_)]) hx hb dX10_allAt_35 hl (k := 3) rfl (by rw [ez11]; rfl) (by decide) rfl (fun ls hl => ?_)
          refine lv_goto (tgt := 4) hx hb dX10_allAt_38 (by decide) ?_
          exact ih4 x10 z11 _ (by omega) (by omega) (by omega) (lv_sub hl [2, 3, 1, 0] rfl)
  have kc12 : (0 : Int32).toInt = 0 := rfl
  exact L4 _ 0 0 _ (by omega) (by omega) (Nat.lt_succ_self _) (lv_sub hl [2, 3, 1, 0] rfl)
set_option maxHeartbeats 4000000 in
set_option maxRecDepth 100000 in
theorem k_X10_judge (l : Launch) (dC : Nat → ClassId) (dI : Nat → Nat → Nat) (cI cZ cQ : ClassId) (b : Nat → Nat) (mday : Int32) (mdoo : Int32) (mdA : Nat → Int32) (mdB : Nat → Int32) (mfar : Nat → Int32) (mmar : Nat → Int32) (mtel : Int32) (mgai : Int32) (mfal : Nat → Int32) (mtop : Nat → Int32) (mstr : Nat → Int32) (mgho : Nat → Int32) (mfai : Nat → Int32) (mpto : Nat → Int32) (mwal : Nat → Int32) (mahd : Nat → Int32) (mahf : Nat → Int32) (mcho : Nat → Int32) (mbes : Nat → Int32) (mbyt : Int32) (mtxt : Nat → Int32) (mpos : Int32) (mtka : Int32) (mtok : Int64) (mdig : Int32) (mnum : Int32) (mfau : Int32) (mrdm : Int32) (mrea : Nat → Int32) (mlin : Int32) (mlne : Nat → Int32) (mthg : Nat → Int32) (mord : Nat → Int32) (mbor : Nat → Int32) (mbsm : Int32) (mans : Nat → Int32) (mand : Nat → Int32) (manr : Nat → Int32) (mali : Nat → Int32) (sz : Nat) (row : Int32) (n : Int32) (mi : Int32) (r_mday : 0 ≤ mday.toInt ∧ mday.toInt ≤ 400) (r_mdoo : 0 ≤ mdoo.toInt ∧ mdoo.toInt ≤ 14) (r_mdA : rg 14 (0) (7) mdA) (r_mdB : rg 14 (0) (7) mdB) (r_mmar : rg 24 (0) (255) mmar) (r_mgai : 0 ≤ mgai.toInt ∧ mgai.toInt ≤ 100) (r_mfal : rg 11 (0) (30) mfal) (r_mtop : rg 48 (-1) (23) mtop) (r_mstr : rg 48 (0) (100) mstr) (r_mgho : rg 48 (-1) (23) mgho) (r_mfai : rg 48 (0) (100) mfai) (r_mahd : rg 240 (0) (100) mahd) (r_mahf : rg 240 (0) (100) mahf) (r_mcho : rg 5 (-1) (9) mcho) (r_mbyt : 0 ≤ mbyt.toInt ∧ mbyt.toInt ≤ 160) (r_mpos : 0 ≤ mpos.toInt ∧ mpos.toInt ≤ 160) (r_mrdm : 0 ≤ mrdm.toInt ∧ mrdm.toInt ≤ 10) (r_mlin : 0 ≤ mlin.toInt ∧ mlin.toInt ≤ 10) (r_mthg : rg 8 (0) (31) mthg) (r_mord : rg 8 (-1) (8) mord) (r_mans : rg 4 (0) (12) mans) : KW l yX10_judge wsX10_judge { frames := 4, cells := 0, slots := 0, locals := 97 } (dC, dI) (TY cI cZ cQ) (wMod cI cZ cQ b mday mdoo mdA mdB mfar mmar mtel mgai mfal mtop mstr mgho mfai mpto mwal mahd mahf mcho mbes mbyt mtxt mpos mtka mtok mdig mnum mfau mrdm mrea mlin mlne mthg mord mbor mbsm mans mand manr mali) [.ref (b 39), .int row, .int n, .int mi] sz 0 0 (fun (r : Int32) (u : US) => (rg 240 (0) (100) (u.1 0)) ∧ (rg 240 (0) (100) (u.1 1))) (fun u : US => (wMod cI cZ cQ b mday mdoo mdA mdB (u.1 2) mmar mtel mgai mfal mtop mstr mgho mfai mpto mwal (u.1 0) (u.1 1) mcho mbes mbyt mtxt mpos mtka mtok mdig mnum mfau mrdm mrea mlin mlne mthg mord mbor mbsm mans mand manr mali)) := by
  refine Met.ofW (cc := cX10_judge) (maxL := 5) (ret := (some .int)) (by decide) rfl ?_
  intro p e s m args below meth c s₁ B hml hv
  obtain ⟨rfl, hsz, hP, hK, hD0, hN⟩ := hv
  have hx := B.exec
  have hb := B.bytes
  have hr := B.returns
  have hts := atoms_spec (ws := wsX10_judge) B.pre
  have hown : s.vm.findClass RX10 = some m.cls := findClass_of_methodNamed B.named
  have hlocks := B.notSynchronized
  subst hsz
  have hD := hD0.self (sz := s.heap.size)
  generalize hAe : va_A (wMod cI cZ cQ b mday mdoo mdA mdB mfar mmar mtel mgai mfal mtop mstr mgho mfai mpto mwal mahd mahf mcho mbes mbyt mtxt mpos mtka mtok mdig mnum mfau mrdm mrea mlin mlne mthg mord mbor mbsm mans mand manr mali) s.heap.size = A at hD ⊢
  have hA : ∀ q : Nat, s.heap.size ≤ q → A q := fun q h => by rw [← hAe]; exact Or.inr h
  have hS : va_S A s.heap s.heap [] := va_S.rf
  have hl := lv_entry ([.ref (b 39), .int row, .int n, .int mi]) (n := 5) (Nat.le_of_ble_eq_true rfl)
  rw [lg_entry_eq]
  generalize (lg_sl ([.ref (b 39), .int row, .int n, .int mi]) ++ List.replicate (5 - (lg_sl ([.ref (b 39), .int row, .int n, .int mi])).length) Slot.unset).toArray = ls at hl ⊢
  have hl : lv_has ls 5 [(0, .ref (b 39)), (1, .int row), (2, .int n), (3, .int mi)] := hl
  refine lv_iload_n hx hb dX10_judge_0 rfl (lv_at hl 2 rfl) ?_
  refine lv_iload_n hx hb dX10_judge_1 rfl (lv_at hl 3 rfl) ?_
  refine rdS (As := [.int n, .int mi]) (rest := []) ⟨hx, hb, hml, hown, hts⟩ (k_X10_areMinutes l dC dI cI cZ cQ n mi) (va_cwS 2 hts gX10_judge_X10_areMinutes rfl rfl rfl (by decide +kernel) ⟨Nat.le_of_ble_eq_true rfl, Nat.le_of_ble_eq_true rfl⟩) hP hK hN [] rfl rfl hl.1 rfl (Nat.le_of_ble_eq_true rfl) dX10_judge_2 ⟨Nat.le_of_ble_eq_true rfl, Nat.le_of_ble_eq_true rfl⟩ (fun r1 h2 => ?_)
  have h2 : ((((r1 = 1) ∧ (1 ≤ n.toInt) ∧ (n.toInt ≤ 4)) ∨ ((r1 = 0)))) := h2
  rcases h2 with (⟨rfl, h2_a0, h2_a1⟩ | rfl)
  · refine lv_if_ne (tgt := 11) hx hb dX10_judge_5 (by decide) (fun _ => ?_) (fun c9 => absurd c9 (by decide))
    refine lv_iconst (v := 0) hx hb dX10_judge_11 (by decide) ?_
    refine lv_istore (lv' := [(4, .int 0), (0, .ref (b 39)), (1, .int row), (2, .int n), (3, .int mi)]) hx hb dX10_judge_12 hl (by decide) rfl (fun ls hl => ?_)
    have L14 : ∀ (nn : Nat) (y14_4 : Int32) (H : Heap) (locs : List Loc) (ls : Array Slot), (0 ≤ (y14_4.toInt)) → ((y14_4.toInt) ≤ 4) → (∀ j : Nat, (j : Int) < (y14_4.toInt) → ((row >>> ((4 * nI j) &&& 31)) &&& 15).toInt ≤ 8) → (4 - (y14_4.toInt)).toNat < nn → va_P (dC, dI) vwCl (wMod cI cZ cQ b mday mdoo mdA mdB mfar mmar mtel mgai mfal mtop mstr mgho mfai mpto mwal mahd mahf mcho mbes mbyt mtxt mpos mtka mtok mdig mnum mfau mrdm mrea mlin mlne mthg mord mbor mbsm mans mand manr mali) H → va_D A (wMod cI cZ cQ b mday mdoo mdA mdB mfar mmar mtel mgai mfal mtop mstr mgho mfai mpto mwal mahd mahf mcho mbes mbyt mtxt mpos mtka mtok mdig mnum mfau mrdm mrea mlin mlne mthg mord mbor mbsm mans mand manr mali) → va_S A s.heap H locs → lv_has ls 5 [(0, .ref (b 39)), (1, .int row), (2, .int n), (3, .int mi), (4, .int y14_4)] → W p l e (headSpec wsX10_judge { frames := 4, cells := 0, slots := 0, locals := 97 }).room s m ([.ref (b 39), .int row, .int n, .int mi] : List Value).toArray below meth c H locs 0 0 (MQ below (va_Qi (fun (r : Int32) (u : US) => (rg 240 (0) (100) (u.1 0)) ∧ (rg 240 (0) (100) (u.1 1))) (Bw (dC, dI) A (fun u : US => (wMod cI cZ cQ b mday mdoo mdA mdB (u.1 2) mmar mtel mgai mfal mtop mstr mgho mfai mpto mwal (u.1 0) (u.1 1) mcho mbes mbyt mtxt mpos mtka mtok mdig mnum mfau mrdm mrea mlin mlne mthg mord mbor mbsm mans mand manr mali))) A) ([.ref (b 39), .int row, .int n, .int mi] : List Value).toArray s 0 0 A) (F0 m 14 ls []) := by
      intro nn
      induction nn with
      | zero =>
        intro y14_4 H locs ls i14_0 i14_1 i14_2 hm
        exact absurd hm (Nat.not_lt_zero _)
      | succ nn ih14 =>
        intro y14_4 H locs ls i14_0 i14_1 i14_2 hm hP hD hS hl
        refine lv_iload hx hb dX10_judge_14 (lv_at hl 4 rfl) ?_
        refine lv_iload_n hx hb dX10_judge_16 rfl (lv_at hl 2 rfl) ?_
        refine lv_icmp_ge (tgt := 43) hx hb dX10_judge_17 (by decide) (fun c3 => ?_) (fun c3 => ?_)
        · have dc3 : n.toInt ≤ y14_4.toInt := leC rfl rfl c3
          refine lv_aload_n hx hb dX10_judge_43 rfl (lv_at hl 0 rfl) ?_
          refine wvV (As := []) (rest := []) (wr := []) (w2 := (fun u : US => (wMod cI cZ cQ b mday mdoo mdA mdB mfar mmar mtel mgai mfal mtop mstr mgho mfai mpto mwal (u.1 0) (u.1 1) mcho mbes mbyt mtxt mpos mtka mtok mdig mnum mfau mrdm mrea mlin mlne mthg mord mbor mbsm mans mand manr mali))) ⟨hx, hb, hml, hown, hts⟩ (k_X10_lookAhead l dC dI cI cZ cQ b mday mdoo mdA mdB mfar mmar mtel mgai mfal mtop mstr mgho mfai mpto mwal mahd mahf mcho mbes mbyt mtxt mpos mtka mtok mdig mnum mfau mrdm mrea mlin mlne mthg mord mbor mbsm mans mand manr mali _ r_mday r_mdoo r_mdA r_mdB r_mmar r_mgai r_mfal r_mtop r_mstr r_mgho r_mfai r_mahd r_mahf r_mcho r_mbyt r_mpos r_mrdm r_mlin r_mthg r_mord r_mans) (cwV 0 hts gX10_judge_X10_lookAhead rfl rfl rfl (by decide +kernel) ⟨Nat.le_of_ble_eq_true rfl, Nat.le_of_ble_eq_true rfl⟩) hP hD hS hA hK hN [0, 1, 2, 3, 4, 5, 6, 7, 8, 9, 10, 11, 12, 13, 14, 15, 16, 17, 18, 19, 20, 21, 22, 23, 24, 25] [] [0, 1, 2, 3, 4, 5, 6, 7, 8, 9, 10, 11, 12, 13, 14, 15, 16, 17, 18, 19, 20, 21, 22, 23, 24, 25] rfl rfl (by decide) (by decide) (by decide) (fun _ => rfl) (by decide) 0 10 rfl rfl rfl hl.1 rfl (Nat.le_of_ble_eq_true rfl) dX10_judge_44 ⟨Nat.le_of_ble_eq_true rfl, Nat.le_of_ble_eq_true rfl⟩ (fun u6 H locs h5 hP hD hS => ?_)
          obtain ⟨mahd_c7, emahd_c7⟩ : ∃ f : Nat → Int32, f = (u6.1 0) := ⟨_, rfl⟩
          obtain ⟨mahf_c8, emahf_c8⟩ : ∃ f : Nat → Int32, f = (u6.1 1) := ⟨_, rfl⟩
          have hP : va_P (dC, dI) vwCl (wMod cI cZ cQ b mday mdoo mdA mdB mfar mmar mtel mgai mfal mtop mstr mgho mfai mpto mwal mahd_c7 mahf_c8 mcho mbes mbyt mtxt mpos mtka mtok mdig mnum mfau mrdm mrea mlin mlne mthg mord mbor mbsm mans mand manr mali) H := by rw [emahd_c7, emahf_c8]; exact hP
          have hD : va_D A (wMod cI cZ cQ b mday mdoo mdA mdB mfar mmar mtel mgai mfal mtop mstr mgho mfai mpto mwal mahd_c7 mahf_c8 mcho mbes mbyt mtxt mpos mtka mtok mdig mnum mfau mrdm mrea mlin mlne mthg mord mbor mbsm mans mand manr mali) := by rw [emahd_c7, emahf_c8]; exact hD
          have h5 : (rg 240 (0) (100) mahd_c7) ∧ (rg 240 (0) (100) mahf_c8) := by (try rw [emahd_c7]); (try rw [emahf_c8]); exact h5
          obtain ⟨h5_0, h5_1⟩ := h5
          refine lv_iconst (v := 0) hx hb dX10_judge_47 (by decide) ?_
          refine lv_istore (lv' := [(4, .int 0), (0, .ref (b 39)), (1, .int row), (2, .int n), (3, .int mi)]) hx hb dX10_judge_48 hl (by decide) rfl (fun ls hl => ?_)
          have L50 : ∀ (nn : Nat) (y50_4 : Int32) (mahd_50 : Nat → Int32) (mahf_50 : Nat → Int32) (mfar_50 : Nat → Int32) (H : Heap) (locs : List Loc) (ls : Array Slot), (rg 240 (0) (100) mahd_50) → (rg 240 (0) (100) mahf_50) → (0 ≤ (y50_4.toInt)) → ((y50_4.toInt) ≤ 4) → (4 - (y50_4.toInt)).toNat < nn → va_P (dC, dI) vwCl (wMod cI cZ cQ b mday mdoo mdA mdB mfar_50 mmar mtel mgai mfal mtop mstr mgho mfai mpto mwal mahd_50 mahf_50 mcho mbes mbyt mtxt mpos mtka mtok mdig mnum mfau mrdm mrea mlin mlne mthg mord mbor mbsm mans mand manr mali) H → va_D A (wMod cI cZ cQ b mday mdoo mdA mdB mfar_50 mmar mtel mgai mfal mtop mstr mgho mfai mpto mwal mahd_50 mahf_50 mcho mbes mbyt mtxt mpos mtka mtok mdig mnum mfau mrdm mrea mlin mlne mthg mord mbor mbsm mans mand manr mali) → va_S A s.heap H locs → lv_has ls 5 [(0, .ref (b 39)), (1, .int row), (2, .int n), (3, .int mi), (4, .int y50_4)] → W p l e (headSpec wsX10_judge { frames := 4, cells := 0, slots := 0, locals := 97 }).room s m ([.ref (b 39), .int row, .int n, .int mi] : List Value).toArray below meth c H locs 0 0 (MQ below (va_Qi (fun (r : Int32) (u : US) => (rg 240 (0) (100) (u.1 0)) ∧ (rg 240 (0) (100) (u.1 1))) (Bw (dC, dI) A (fun u : US => (wMod cI cZ cQ b mday mdoo mdA mdB (u.1 2) mmar mtel mgai mfal mtop mstr mgho mfai mpto mwal (u.1 0) (u.1 1) mcho mbes mbyt mtxt mpos mtka mtok mdig mnum mfau mrdm mrea mlin mlne mthg mord mbor mbsm mans mand manr mali))) A) ([.ref (b 39), .int row, .int n, .int mi] : List Value).toArray s 0 0 A) (F0 m 50 ls []) := by
            intro nn
            induction nn with
            | zero =>
              intro y50_4 mahd_50 mahf_50 mfar_50 H locs ls r_mahd_50 r_mahf_50 i50_0 i50_1 hm
              exact absurd hm (Nat.not_lt_zero _)
            | succ nn ih50 =>
              intro y50_4 mahd_50 mahf_50 mfar_50 H locs ls r_mahd_50 r_mahf_50 i50_0 i50_1 hm hP hD hS hl
              refine lv_iload hx hb dX10_judge_50 (lv_at hl 4 rfl) ?_
              refine lv_iload_n hx hb dX10_judge_52 rfl (lv_at hl 2 rfl) ?_
              refine lv_icmp_ge (tgt := 83) hx hb dX10_judge_53 (by decide) (fun c9 => ?_) (fun c9 => ?_)
              · have dc9 : n.toInt ≤ y50_4.toInt := leC rfl rfl c9
                refine lv_aload_n hx hb dX10_judge_83 rfl (lv_at hl 0 rfl) ?_
                refine lv_bipush (v := 48) hx hb dX10_judge_84 (by decide) ?_
                refine lv_iload_n hx hb dX10_judge_86 rfl (lv_at hl 2 rfl) ?_
                refine lv_imul hx hb dX10_judge_87 ?_
                have f10 : (48 * n).toInt = (48) * (n.toInt) := mulC (show (48 : Int32).toInt = 48 from rfl) rfl (by omega) (by omega)
                refine rdV (As := [.int (48 * n)]) (rest := []) ⟨hx, hb, hml, hown, hts⟩ (k_X10_allAt l dC dI cI cZ cQ b mday mdoo mdA mdB mfar_50 mmar mtel mgai mfal mtop mstr mgho mfai mpto mwal mahd_50 mahf_50 mcho mbes mbyt mtxt mpos mtka mtok mdig mnum mfau mrdm mrea mlin mlne mthg mord mbor mbsm mans mand manr mali (48 * n) r_mday r_mdoo r_mdA r_mdB r_mmar r_mgai r_mfal r_mtop r_mstr r_mgho r_mfai r_mahd_50 r_mahf_50 r_mcho r_mbyt r_mpos r_mrdm r_mlin r_mthg r_mord r_mans (by omega) (by omega)) (cwV 1 hts gX10_judge_X10_allAt rfl rfl rfl (by decide +kernel) ⟨Nat.le_of_ble_eq_true rfl, Nat.le_of_ble_eq_true rfl⟩) hP hK hN [0, 1, 2, 3, 4, 5, 6, 7, 8, 9, 10, 11, 12, 13, 14, 15, 16, 17, 18, 19, 20, 21, 22, 23, 24, 25] rfl 0 10 rfl rfl rfl hl.1 rfl (Nat.le_of_ble_eq_true rfl) dX10_judge_88 ⟨Nat.le_of_ble_eq_true rfl, Nat.le_of_ble_eq_true rfl⟩ (fun r11 h12 => ?_)
                have h12 : True := h12
                exact W.iret (v := r11) hx hb hr (fun tq ht hW => ⟨⟨r11, (uS [mahd_50, mahf_50, mfar_50] 0 (fun _ => 0)), rfl, ⟨r_mahd_50, r_mahf_50⟩, by rw [ht]; exact hP, hD⟩, hS.F ht⟩) hS.2.2 dX10_judge_91
              · have dc9 : y50_4.toInt < n.toInt := nleC rfl rfl c9
                have kk := i14_2 y50_4.toInt.toNat (by omega)
                rw [nI_toNat (by omega)] at kk
                refine lv_aload_n hx hb dX10_judge_56 rfl (lv_at hl 0 rfl) ?_
                refine lv_iload hx hb dX10_judge_57 (lv_at hl 4 rfl) ?_
                refine lv_iload_n hx hb dX10_judge_59 rfl (lv_at hl 1 rfl) ?_
                refine lv_iconst (v := 4) hx hb dX10_judge_60 (by decide) ?_
                refine lv_iload hx hb dX10_judge_61 (lv_at hl 4 rfl) ?_
                refine lv_imul hx hb dX10_judge_63 ?_
                have f13 : (4 * y50_4).toInt = (4) * (y50_4.toInt) := mulC (show (4 : Int32).toInt = 4 from rfl) rfl (by omega) (by omega)
                refine lv_ishr hx hb dX10_judge_64 ?_
                refine lv_bipush (v := 15) hx hb dX10_judge_65 (by decide) ?_
                refine lv_iand hx hb dX10_judge_67 ?_
                have f14 := andR (a := (row >>> ((4 * y50_4) &&& 31))) (m := 15) (M := 15) rfl (by decide)
                refine lv_iload_n hx hb dX10_judge_68 rfl (lv_at hl 3 rfl) ?_
                refine wrV (As := [.int y50_4, .int ((row >>> ((4 * y50_4) &&& 31)) &&& 15), .int mi]) (rest := []) (wr := []) (w2 := (fun u : US => (wMod cI cZ cQ b mday mdoo mdA mdB (u.1 2) mmar mtel mgai mfal mtop mstr mgho mfai mpto mwal (u.1 0) (u.1 1) mcho mbes mbyt mtxt mpos mtka mtok mdig mnum mfau mrdm mrea mlin mlne mthg mord mbor mbsm mans mand manr mali))) ⟨hx, hb, hml, hown, hts⟩ (k_X10_isGone l dC dI cI cZ cQ b mday mdoo mdA mdB mfar_50 mmar mtel mgai mfal mtop mstr mgho mfai mpto mwal mahd_50 mahf_50 mcho mbes mbyt mtxt mpos mtka mtok mdig mnum mfau mrdm mrea mlin mlne mthg mord mbor mbsm mans mand manr mali _ y50_4 ((row >>> ((4 * y50_4) &&& 31)) &&& 15) mi r_mday r_mdoo r_mdA r_mdB r_mmar r_mgai r_mfal r_mtop r_mstr r_mgho r_mfai r_mahd_50 r_mahf_50 r_mcho r_mbyt r_mpos r_mrdm r_mlin r_mthg r_mord r_mans (by omega) (by omega) (by omega) (by omega)) (cwV 3 hts gX10_judge_X10_isGone rfl rfl rfl (by decide +kernel) ⟨Nat.le_of_ble_eq_true rfl, Nat.le_of_ble_eq_true rfl⟩) hP hD hS hA hK hN [0, 1, 2, 3, 4, 5, 6, 7, 8, 9, 10, 11, 12, 13, 14, 15, 16, 17, 18, 19, 20, 21, 22, 23, 24, 25] [] [0, 1, 2, 3, 4, 5, 6, 7, 8, 9, 10, 11, 12, 13, 14, 15, 16, 17, 18, 19, 20, 21, 22, 23, 24, 25] rfl rfl (by decide) (by decide) (by decide) (fun _ => rfl) (by decide) 0 10 rfl rfl rfl hl.1 rfl (Nat.le_of_ble_eq_true rfl) dX10_judge_69 ⟨Nat.le_of_ble_eq_true rfl, Nat.le_of_ble_eq_true rfl⟩ (fun r15 u17 H locs h16 hP hD hS => ?_)
                obtain ⟨mahd_c18, emahd_c18⟩ : ∃ f : Nat → Int32, f = (u17.1 0) := ⟨_, rfl⟩
                obtain ⟨mahf_c19, emahf_c19⟩ : ∃ f : Nat → Int32, f = (u17.1 1) := ⟨_, rfl⟩
                obtain ⟨mfar_c20, emfar_c20⟩ : ∃ f : Nat → Int32, f = (u17.1 2) := ⟨_, rfl⟩
                have hP : va_P (dC, dI) vwCl (wMod cI cZ cQ b mday mdoo mdA mdB mfar_c20 mmar mtel mgai mfal mtop mstr mgho mfai mpto mwal mahd_c18 mahf_c19 mcho mbes mbyt mtxt mpos mtka mtok mdig mnum mfau mrdm mrea mlin mlne mthg mord mbor mbsm mans mand manr mali) H := by rw [emahd_c18, emahf_c19, emfar_c20]; exact hP
                have hD : va_D A (wMod cI cZ cQ b mday mdoo mdA mdB mfar_c20 mmar mtel mgai mfal mtop mstr mgho mfai mpto mwal mahd_c18 mahf_c19 mcho mbes mbyt mtxt mpos mtka mtok mdig mnum mfau mrdm mrea mlin mlne mthg mord mbor mbsm mans mand manr mali) := by rw [emahd_c18, emahf_c19, emfar_c20]; exact hD
                have h16 : ((((r15 = 1)) ∨ ((r15 = 0)))) ∧ (rg 240 (0) (100) mahd_c18) ∧ (rg 240 (0) (100) mahf_c19) := by (try rw [emahd_c18]); (try rw [emahf_c19]); (try rw [emfar_c20]); exact h16
                rcases h16 with ⟨(rfl | rfl), h16_0, h16_1⟩
                · refine lv_if_ne (tgt := 77) hx hb dX10_judge_72 (by decide) (fun _ => ?_) (fun c9 => absurd c9 (by decide))
                  obtain ⟨z21, ez21⟩ : ∃ y : Int32, y = y50_4 + 1 := ⟨_, rfl⟩
                  have iz21 : z21.toInt = y50_4.toInt + 1 := by rw [ez21]; exact addC rfl rfl (by omega) (by omega)
                  refine lv_iinc (v := z21) (lv' := [(4, .int z21), (0, .ref (b 39)), (1, .int row), (2, .int n), (3, .int mi)]) hx hb dX10_judge_77 hl (k := 4) rfl (by rw [ez21]; rfl) (by decide) rfl (fun ls hl => ?_)
                  refine lv_goto (tgt := 50) hx hb dX10_judge_80 (by decide) ?_
                  exact ih50 z21 mahd_c18 mahf_c19 mfar_c20 _ _ _ h16_0 h16_1 (by omega) (by omega) (by omega) hP hD hS (lv_sub hl [1, 2, 3, 4, 0] rfl)
                · refine lv_if_ne (tgt := 77) hx hb dX10_judge_72 (by decide) (fun c9 => absurd (by decide) c9) (fun _ => ?_)
                  refine lv_iconst (v := (-1)) hx hb dX10_judge_75 (by decide) ?_
                  exact W.iret (v := (-1)) hx hb hr (fun tq ht hW => ⟨⟨(-1), (uS [mahd_c18, mahf_c19, mfar_c20] 0 (fun _ => 0)), rfl, ⟨h16_0, h16_1⟩, by rw [ht]; exact hP, hD⟩, hS.F ht⟩) hS.2.2 dX10_judge_76
          have kc22 : (0 : Int32).toInt = 0 := rfl
          exact L50 _ 0 mahd_c7 mahf_c8 mfar _ _ _ h5_0 h5_1 (by omega) (by omega) (Nat.lt_succ_self _) hP hD hS (lv_sub hl [1, 2, 3, 4, 0] rfl)
        · have dc3 : y14_4.toInt < n.toInt := nleC rfl rfl c3
          refine lv_iload_n hx hb dX10_judge_20 rfl (lv_at hl 1 rfl) ?_
          refine lv_iconst (v := 4) hx hb dX10_judge_21 (by decide) ?_
          refine lv_iload hx hb dX10_judge_22 (lv_at hl 4 rfl) ?_
          refine lv_imul hx hb dX10_judge_24 ?_
          have f23 : (4 * y14_4).toInt = (4) * (y14_4.toInt) := mulC (show (4 : Int32).toInt = 4 from rfl) rfl (by omega) (by omega)
          refine lv_ishr hx hb dX10_judge_25 ?_
          refine lv_bipush (v := 15) hx hb dX10_judge_26 (by decide) ?_
          refine lv_iand hx hb dX10_judge_28 ?_
          have f24 := andR (a := (row >>> ((4 * y14_4) &&& 31))) (m := 15) (M := 15) rfl (by decide)
          refine lv_bipush (v := 8) hx hb dX10_judge_29 (by decide) ?_
          refine lv_icmp_le (tgt := 37) hx hb dX10_judge_31 (by decide) (fun c25 => ?_) (fun c25 => ?_)
          · have dc25 : ((row >>> ((4 * y14_4) &&& 31)) &&& 15).toInt ≤ 8 := leC rfl (show (8 : Int32).toInt = 8 from rfl) c25
            obtain ⟨z26, ez26⟩ : ∃ y : Int32, y = y14_4 + 1 := ⟨_, rfl⟩
            have iz26 : z26.toInt = y14_4.toInt + 1 := by rw [ez26]; exact addC rfl rfl (by omega) (by omega)
            refine lv_iinc (v := z26) (lv' := [(4, .int z26), (0, .ref (b 39)), (1, .int row), (2, .int n), (3, .int mi)]) hx hb dX10_judge_37 hl (k := 4) rfl (by rw [ez26]; rfl) (by decide) rfl (fun ls hl => ?_)
            refine lv_goto (tgt := 14) hx hb dX10_judge_40 (by decide) ?_
            exact ih14 z26 _ _ _ (by omega) (by omega) (by (first | (intro j hj; omega) | (intro j hj; by_cases e : (j : Int) = y14_4.toInt <;> first | exact i14_2 j (by omega) | (have ej : nI j = y14_4 := (by have := nI_toNat (y := y14_4) (by omega); rw [← this]; congr 1; omega); rw [ej]; omega)))) (by omega) hP hD hS (lv_sub hl [1, 2, 3, 4, 0] rfl)
          · have dc25 : 8 < ((row >>> ((4 * y14_4) &&& 31)) &&& 15).toInt := nleC rfl (show (8 : Int32).toInt = 8 from rfl) c25
            refine lv_bipush (v := (-3)) hx hb dX10_judge_34 (by decide) ?_
            exact W.iret (v := (-3)) hx hb hr (fun tq ht hW => ⟨⟨(-3), (uS [mahd, mahf, mfar] 0 (fun _ => 0)), rfl, ⟨r_mahd, r_mahf⟩, by rw [ht]; exact hP, hD⟩, hS.F ht⟩) hS.2.2 dX10_judge_36
    have kc27 : (0 : Int32).toInt = 0 := rfl
    exact L14 _ 0 _ _ _ (by omega) (by omega) (by (first | (intro j hj; omega) | (intro j hj; by_cases e : (j : Int) = y14_4.toInt <;> first | exact i14_2 j (by omega) | (have ej : nI j = y14_4 := (by have := nI_toNat (y := y14_4) (by omega); rw [← this]; congr 1; omega); rw [ej]; omega)))) (Nat.lt_succ_self _) hP hD hS (lv_sub hl [1, 2, 3, 4, 0] rfl)
  · refine lv_if_ne (tgt := 11) hx hb dX10_judge_5 (by decide) (fun c9 => absurd (by decide) c9) (fun _ => ?_)
    refine lv_bipush (v := (-3)) hx hb dX10_judge_8 (by decide) ?_
    exact W.iret (v := (-3)) hx hb hr (fun tq ht hW => ⟨⟨(-3), (uS [mahd, mahf, mfar] 0 (fun _ => 0)), rfl, ⟨r_mahd, r_mahf⟩, by rw [ht]; exact hP, hD⟩, hS.F ht⟩) hS.2.2 dX10_judge_10
