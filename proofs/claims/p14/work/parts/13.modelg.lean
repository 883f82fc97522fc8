theorem dX10_lastOf_0 : decode cX10_lastOf 0 = .ok (.iload_n 3, 1) := by decide +kernel
theorem dX10_lastOf_1 : decode cX10_lastOf 1 = .ok (.istore 4, 2) := by decide +kernel
theorem dX10_lastOf_3 : decode cX10_lastOf 3 = .ok (.iconst 0, 1) := by decide +kernel
theorem dX10_lastOf_4 : decode cX10_lastOf 4 = .ok (.istore 5, 2) := by decide +kernel
theorem dX10_lastOf_6 : decode cX10_lastOf 6 = .ok (.iload 5, 2) := by decide +kernel
theorem dX10_lastOf_8 : decode cX10_lastOf 8 = .ok (.aload_n 0, 1) := by decide +kernel
theorem dX10_lastOf_9 : decode cX10_lastOf 9 = .ok (.getfield 210, 3) := by decide +kernel
theorem dX10_lastOf_12 : decode cX10_lastOf 12 = .ok (.if_icmp .ge 55, 3) := by decide +kernel
theorem dX10_lastOf_15 : decode cX10_lastOf 15 = .ok (.aload_n 0, 1) := by decide +kernel
theorem dX10_lastOf_16 : decode cX10_lastOf 16 = .ok (.getfield 68, 3) := by decide +kernel
theorem dX10_lastOf_19 : decode cX10_lastOf 19 = .ok (.iconst 3, 1) := by decide +kernel
theorem dX10_lastOf_20 : decode cX10_lastOf 20 = .ok (.iload 5, 2) := by decide +kernel
theorem dX10_lastOf_22 : decode cX10_lastOf 22 = .ok (.imul, 1) := by decide +kernel
theorem dX10_lastOf_23 : decode cX10_lastOf 23 = .ok (.iaload, 1) := by decide +kernel
theorem dX10_lastOf_24 : decode cX10_lastOf 24 = .ok (.iload_n 1, 1) := by decide +kernel
theorem dX10_lastOf_25 : decode cX10_lastOf 25 = .ok (.if_icmp .ne 32, 3) := by decide +kernel
theorem dX10_lastOf_28 : decode cX10_lastOf 28 = .ok (.aload_n 0, 1) := by decide +kernel
theorem dX10_lastOf_29 : decode cX10_lastOf 29 = .ok (.getfield 68, 3) := by decide +kernel
theorem dX10_lastOf_32 : decode cX10_lastOf 32 = .ok (.iconst 3, 1) := by decide +kernel
theorem dX10_lastOf_33 : decode cX10_lastOf 33 = .ok (.iload 5, 2) := by decide +kernel
theorem dX10_lastOf_35 : decode cX10_lastOf 35 = .ok (.imul, 1) := by decide +kernel
theorem dX10_lastOf_36 : decode cX10_lastOf 36 = .ok (.iconst 1, 1) := by decide +kernel
theorem dX10_lastOf_37 : decode cX10_lastOf 37 = .ok (.iadd, 1) := by decide +kernel
theorem dX10_lastOf_38 : decode cX10_lastOf 38 = .ok (.iaload, 1) := by decide +kernel
theorem dX10_lastOf_39 : decode cX10_lastOf 39 = .ok (.iload_n 2, 1) := by decide +kernel
theorem dX10_lastOf_40 : decode cX10_lastOf 40 = .ok (.if_icmp .ne 17, 3) := by decide +kernel
theorem dX10_lastOf_43 : decode cX10_lastOf 43 = .ok (.aload_n 0, 1) := by decide +kernel
theorem dX10_lastOf_44 : decode cX10_lastOf 44 = .ok (.getfield 68, 3) := by decide +kernel
theorem dX10_lastOf_47 : decode cX10_lastOf 47 = .ok (.iconst 3, 1) := by decide +kernel
theorem dX10_lastOf_48 : decode cX10_lastOf 48 = .ok (.iload 5, 2) := by decide +kernel
theorem dX10_lastOf_50 : decode cX10_lastOf 50 = .ok (.imul, 1) := by decide +kernel
theorem dX10_lastOf_51 : decode cX10_lastOf 51 = .ok (.iconst 2, 1) := by decide +kernel
theorem dX10_lastOf_52 : decode cX10_lastOf 52 = .ok (.iadd, 1) := by decide +kernel
theorem dX10_lastOf_53 : decode cX10_lastOf 53 = .ok (.iaload, 1) := by decide +kernel
theorem dX10_lastOf_54 : decode cX10_lastOf 54 = .ok (.goto 5, 3) := by decide +kernel
theorem dX10_lastOf_57 : decode cX10_lastOf 57 = .ok (.iload 4, 2) := by decide +kernel
theorem dX10_lastOf_59 : decode cX10_lastOf 59 = .ok (.istore 4, 2) := by decide +kernel
theorem dX10_lastOf_61 : decode cX10_lastOf 61 = .ok (.iinc 5 1, 3) := by decide +kernel
theorem dX10_lastOf_64 : decode cX10_lastOf 64 = .ok (.goto (-58), 3) := by decide +kernel
theorem dX10_lastOf_67 : decode cX10_lastOf 67 = .ok (.iload 4, 2) := by decide +kernel
theorem dX10_lastOf_69 : decode cX10_lastOf 69 = .ok (.ireturn, 1) := by decide +kernel
theorem dX10_standIn_0 : decode cX10_standIn 0 = .ok (.iconst 0, 1) := by decide +kernel
theorem dX10_standIn_1 : decode cX10_standIn 1 = .ok (.istore_n 2, 1) := by decide +kernel
theorem dX10_standIn_2 : decode cX10_standIn 2 = .ok (.bipush 6, 2) := by decide +kernel
theorem dX10_standIn_4 : decode cX10_standIn 4 = .ok (.iload_n 1, 1) := by decide +kernel
theorem dX10_standIn_5 : decode cX10_standIn 5 = .ok (.imul, 1) := by decide +kernel
theorem dX10_standIn_6 : decode cX10_standIn 6 = .ok (.istore_n 3, 1) := by decide +kernel
theorem dX10_standIn_7 : decode cX10_standIn 7 = .ok (.iload_n 3, 1) := by decide +kernel
theorem dX10_standIn_8 : decode cX10_standIn 8 = .ok (.bipush 6, 2) := by decide +kernel
theorem dX10_standIn_10 : decode cX10_standIn 10 = .ok (.iload_n 1, 1) := by decide +kernel
theorem dX10_standIn_11 : decode cX10_standIn 11 = .ok (.imul, 1) := by decide +kernel
theorem dX10_standIn_12 : decode cX10_standIn 12 = .ok (.bipush 6, 2) := by decide +kernel
theorem dX10_standIn_14 : decode cX10_standIn 14 = .ok (.iadd, 1) := by decide +kernel
theorem dX10_standIn_15 : decode cX10_standIn 15 = .ok (.if_icmp .ge 27, 3) := by decide +kernel
theorem dX10_standIn_18 : decode cX10_standIn 18 = .ok (.iload_n 2, 1) := by decide +kernel
theorem dX10_standIn_19 : decode cX10_standIn 19 = .ok (.aload_n 0, 1) := by decide +kernel
theorem dX10_standIn_20 : decode cX10_standIn 20 = .ok (.getfield 32, 3) := by decide +kernel
theorem dX10_standIn_23 : decode cX10_standIn 23 = .ok (.iload_n 3, 1) := by decide +kernel
theorem dX10_standIn_24 : decode cX10_standIn 24 = .ok (.iaload, 1) := by decide +kernel
theorem dX10_standIn_25 : decode cX10_standIn 25 = .ok (.iconst (-1), 1) := by decide +kernel
theorem dX10_standIn_26 : decode cX10_standIn 26 = .ok (.if_icmp .ne 7, 3) := by decide +kernel
theorem dX10_standIn_29 : decode cX10_standIn 29 = .ok (.iconst 0, 1) := by decide +kernel
theorem dX10_standIn_30 : decode cX10_standIn 30 = .ok (.goto 4, 3) := by decide +kernel
theorem dX10_standIn_33 : decode cX10_standIn 33 = .ok (.iconst 1, 1) := by decide +kernel
theorem dX10_standIn_34 : decode cX10_standIn 34 = .ok (.iadd, 1) := by decide +kernel
theorem dX10_standIn_35 : decode cX10_standIn 35 = .ok (.istore_n 2, 1) := by decide +kernel
theorem dX10_standIn_36 : decode cX10_standIn 36 = .ok (.iinc 3 1, 3) := by decide +kernel
theorem dX10_standIn_39 : decode cX10_standIn 39 = .ok (.goto (-32), 3) := by decide +kernel
theorem dX10_standIn_42 : decode cX10_standIn 42 = .ok (.iload_n 2, 1) := by decide +kernel
theorem dX10_standIn_43 : decode cX10_standIn 43 = .ok (.ireturn, 1) := by decide +kernel
set_option maxRecDepth 20000 in
theorem ggX10_isTooLike_X10_likeness : GoodIn wsX10_isTooLike wsX10_likeness := goodIn_r _ [6, 7, 8, 9, 10, 11, 12, 13, 14, 15, 16, 17, 18, 19, 20, 21, 22, 23, 24, 25, 26, 27, 28, 29, 30, 31, 32, 33, 34, 35, 36, 37, 38, 39, 40, 41, 42, 43, 44, 45, 46] (by decide +kernel) (by decide +kernel)
set_option maxRecDepth 20000 in
theorem gX10_isTooLike_X10_likeness : GoodIn wsX10_isTooLike (wsV RX10 115 RX10 yX10_likeness wsX10_likeness) := goodIn_app (goodIn_of _ (by decide +kernel)) ggX10_isTooLike_X10_likeness
theorem dX10_isTooLike_0 : decode cX10_isTooLike 0 = .ok (.aload_n 0, 1) := by decide +kernel
theorem dX10_isTooLike_1 : decode cX10_isTooLike 1 = .ok (.getfield 32, 3) := by decide +kernel
theorem dX10_isTooLike_4 : decode cX10_isTooLike 4 = .ok (.iload_n 2, 1) := by decide +kernel
theorem dX10_isTooLike_5 : decode cX10_isTooLike 5 = .ok (.iaload, 1) := by decide +kernel
theorem dX10_isTooLike_6 : decode cX10_isTooLike 6 = .ok (.iconst (-1), 1) := by decide +kernel
theorem dX10_isTooLike_7 : decode cX10_isTooLike 7 = .ok (.if_icmp .eq 22, 3) := by decide +kernel
theorem dX10_isTooLike_10 : decode cX10_isTooLike 10 = .ok (.aload_n 0, 1) := by decide +kernel
theorem dX10_isTooLike_11 : decode cX10_isTooLike 11 = .ok (.aload_n 0, 1) := by decide +kernel
theorem dX10_isTooLike_12 : decode cX10_isTooLike 12 = .ok (.getfield 32, 3) := by decide +kernel
theorem dX10_isTooLike_15 : decode cX10_isTooLike 15 = .ok (.iload_n 2, 1) := by decide +kernel
theorem dX10_isTooLike_16 : decode cX10_isTooLike 16 = .ok (.iaload, 1) := by decide +kernel
theorem dX10_isTooLike_17 : decode cX10_isTooLike 17 = .ok (.iload_n 1, 1) := by decide +kernel
theorem dX10_isTooLike_18 : decode cX10_isTooLike 18 = .ok (.invokevirtual 115, 3) := by decide +kernel
theorem dX10_isTooLike_21 : decode cX10_isTooLike 21 = .ok (.iload_n 3, 1) := by decide +kernel
theorem dX10_isTooLike_22 : decode cX10_isTooLike 22 = .ok (.if_icmp .le 7, 3) := by decide +kernel
theorem dX10_isTooLike_25 : decode cX10_isTooLike 25 = .ok (.iconst 1, 1) := by decide +kernel
theorem dX10_isTooLike_26 : decode cX10_isTooLike 26 = .ok (.goto 4, 3) := by decide +kernel
theorem dX10_isTooLike_29 : decode cX10_isTooLike 29 = .ok (.iconst 0, 1) := by decide +kernel
theorem dX10_isTooLike_30 : decode cX10_isTooLike 30 = .ok (.ireturn, 1) := by decide +kernel
set_option maxRecDepth 20000 in
theorem ggX10_bars_X10_isThing : GoodIn wsX10_bars wsX10_isThing := goodIn_r _ [6, 7, 8, 5, 9] (by decide +kernel) (by decide +kernel)
set_option maxRecDepth 20000 in
theorem gX10_bars_X10_isThing : GoodIn wsX10_bars (va_wsS RX10 112 yX10_isThing wsX10_isThing) := goodIn_app (goodIn_of _ (by decide +kernel)) ggX10_bars_X10_isThing
set_option maxRecDepth 20000 in
theorem ggX10_bars_X10_isCorner : GoodIn wsX10_bars wsX10_isCorner := goodIn_r _ [12, 7, 8, 5, 9] (by decide +kernel) (by decide +kernel)
set_option maxRecDepth 20000 in
theorem gX10_bars_X10_isCorner : GoodIn wsX10_bars (va_wsS RX10 118 yX10_isCorner wsX10_isCorner) := goodIn_app (goodIn_of _ (by decide +kernel)) ggX10_bars_X10_isCorner
set_option maxRecDepth 20000 in
theorem ggX10_bars_X10_standIn : GoodIn wsX10_bars wsX10_standIn := goodIn_r _ [16, 17, 33, 34, 35, 36, 37, 38, 39, 40, 41, 42, 43, 44, 45, 46, 47, 48, 49, 50, 51, 52, 53, 54, 55, 56, 57, 58, 59, 60, 61, 62, 63, 64, 65, 66, 67, 68, 69, 70, 71] (by decide +kernel) (by decide +kernel)
set_option maxRecDepth 20000 in
theorem gX10_bars_X10_standIn : GoodIn wsX10_bars (wsV RX10 213 RX10 yX10_standIn wsX10_standIn) := goodIn_app (goodIn_of _ (by decide +kernel)) ggX10_bars_X10_standIn
set_option maxRecDepth 20000 in
theorem ggX10_bars_X10_lastOf : GoodIn wsX10_bars wsX10_lastOf := goodIn_r _ [21, 22, 23, 33, 34, 35, 36, 37, 38, 39, 40, 41, 42, 43, 44, 45, 46, 47, 48, 49, 50, 51, 52, 53, 54, 55, 56, 57, 58, 59, 60, 61, 62, 63, 64, 65, 66, 67, 68, 69, 70, 71] (by decide +kernel) (by decide +kernel)
set_option maxRecDepth 20000 in
theorem gX10_bars_X10_lastOf : GoodIn wsX10_bars (wsV RX10 216 RX10 yX10_lastOf wsX10_lastOf) := goodIn_app (goodIn_of _ (by decide +kernel)) ggX10_bars_X10_lastOf
set_option maxRecDepth 20000 in
theorem ggX10_bars_X10_isTooLike : GoodIn wsX10_bars wsX10_isTooLike := goodIn_r _ [27, 17, 28, 29, 30, 5, 31, 32, 33, 34, 35, 36, 37, 38, 39, 40, 41, 42, 43, 44, 45, 46, 47, 48, 49, 50, 51, 52, 53, 54, 55, 56, 57, 58, 59, 60, 61, 62, 63, 64, 65, 66, 67, 68, 69, 70, 71] (by decide +kernel) (by decide +kernel)
set_option maxRecDepth 20000 in
theorem gX10_bars_X10_isTooLike : GoodIn wsX10_bars (wsV RX10 220 RX10 yX10_isTooLike wsX10_isTooLike) := goodIn_app (goodIn_of _ (by decide +kernel)) ggX10_bars_X10_isTooLike
theorem dX10_bars_0 : decode cX10_bars 0 = .ok (.iload_n 1, 1) := by decide +kernel
theorem dX10_bars_1 : decode cX10_bars 1 = .ok (.invokestatic 112, 3) := by decide +kernel
theorem dX10_bars_4 : decode cX10_bars 4 = .ok (.ifCond .eq 10, 3) := by decide +kernel
theorem dX10_bars_7 : decode cX10_bars 7 = .ok (.iload_n 2, 1) := by decide +kernel
theorem dX10_bars_8 : decode cX10_bars 8 = .ok (.invokestatic 118, 3) := by decide +kernel
theorem dX10_bars_11 : decode cX10_bars 11 = .ok (.ifCond .ne 6, 3) := by decide +kernel
theorem dX10_bars_14 : decode cX10_bars 14 = .ok (.bipush (-2), 2) := by decide +kernel
theorem dX10_bars_16 : decode cX10_bars 16 = .ok (.ireturn, 1) := by decide +kernel
theorem dX10_bars_17 : decode cX10_bars 17 = .ok (.aload_n 0, 1) := by decide +kernel
theorem dX10_bars_18 : decode cX10_bars 18 = .ok (.iload_n 2, 1) := by decide +kernel
theorem dX10_bars_19 : decode cX10_bars 19 = .ok (.bipush 6, 2) := by decide +kernel
theorem dX10_bars_21 : decode cX10_bars 21 = .ok (.idiv, 1) := by decide +kernel
theorem dX10_bars_22 : decode cX10_bars 22 = .ok (.invokevirtual 213, 3) := by decide +kernel
theorem dX10_bars_25 : decode cX10_bars 25 = .ok (.aload_n 0, 1) := by decide +kernel
theorem dX10_bars_26 : decode cX10_bars 26 = .ok (.iconst 0, 1) := by decide +kernel
theorem dX10_bars_27 : decode cX10_bars 27 = .ok (.iload_n 2, 1) := by decide +kernel
theorem dX10_bars_28 : decode cX10_bars 28 = .ok (.bipush 6, 2) := by decide +kernel
theorem dX10_bars_30 : decode cX10_bars 30 = .ok (.idiv, 1) := by decide +kernel
theorem dX10_bars_31 : decode cX10_bars 31 = .ok (.bipush 100, 2) := by decide +kernel
theorem dX10_bars_33 : decode cX10_bars 33 = .ok (.invokevirtual 216, 3) := by decide +kernel
theorem dX10_bars_36 : decode cX10_bars 36 = .ok (.if_icmp .lt 7, 3) := by decide +kernel
theorem dX10_bars_39 : decode cX10_bars 39 = .ok (.iconst 1, 1) := by decide +kernel
theorem dX10_bars_40 : decode cX10_bars 40 = .ok (.goto 4, 3) := by decide +kernel
theorem dX10_bars_43 : decode cX10_bars 43 = .ok (.iconst 0, 1) := by decide +kernel
theorem dX10_bars_44 : decode cX10_bars 44 = .ok (.istore_n 3, 1) := by decide +kernel
theorem dX10_bars_45 : decode cX10_bars 45 = .ok (.aload_n 0, 1) := by decide +kernel
theorem dX10_bars_46 : decode cX10_bars 46 = .ok (.iconst 2, 1) := by decide +kernel
theorem dX10_bars_47 : decode cX10_bars 47 = .ok (.iconst 0, 1) := by decide +kernel
theorem dX10_bars_48 : decode cX10_bars 48 = .ok (.bipush 100, 2) := by decide +kernel
theorem dX10_bars_50 : decode cX10_bars 50 = .ok (.invokevirtual 216, 3) := by decide +kernel
theorem dX10_bars_53 : decode cX10_bars 53 = .ok (.istore 4, 2) := by decide +kernel
theorem dX10_bars_55 : decode cX10_bars 55 = .ok (.iload_n 3, 1) := by decide +kernel
theorem dX10_bars_56 : decode cX10_bars 56 = .ok (.aload_n 0, 1) := by decide +kernel
theorem dX10_bars_57 : decode cX10_bars 57 = .ok (.getfield 44, 3) := by decide +kernel
theorem dX10_bars_60 : decode cX10_bars 60 = .ok (.iload_n 2, 1) := by decide +kernel
theorem dX10_bars_61 : decode cX10_bars 61 = .ok (.iaload, 1) := by decide +kernel
theorem dX10_bars_62 : decode cX10_bars 62 = .ok (.iconst (-1), 1) := by decide +kernel
theorem dX10_bars_63 : decode cX10_bars 63 = .ok (.if_icmp .eq 28, 3) := by decide +kernel
theorem dX10_bars_66 : decode cX10_bars 66 = .ok (.aload_n 0, 1) := by decide +kernel
theorem dX10_bars_67 : decode cX10_bars 67 = .ok (.getfield 125, 3) := by decide +kernel
theorem dX10_bars_70 : decode cX10_bars 70 = .ok (.aload_n 0, 1) := by decide +kernel
theorem dX10_bars_71 : decode cX10_bars 71 = .ok (.getfield 44, 3) := by decide +kernel
theorem dX10_bars_74 : decode cX10_bars 74 = .ok (.iload_n 2, 1) := by decide +kernel
theorem dX10_bars_75 : decode cX10_bars 75 = .ok (.iaload, 1) := by decide +kernel
theorem dX10_bars_76 : decode cX10_bars 76 = .ok (.isub, 1) := by decide +kernel
theorem dX10_bars_77 : decode cX10_bars 77 = .ok (.aload_n 0, 1) := by decide +kernel
theorem dX10_bars_78 : decode cX10_bars 78 = .ok (.iconst 1, 1) := by decide +kernel
theorem dX10_bars_79 : decode cX10_bars 79 = .ok (.iconst 0, 1) := by decide +kernel
theorem dX10_bars_80 : decode cX10_bars 80 = .ok (.iconst 0, 1) := by decide +kernel
theorem dX10_bars_81 : decode cX10_bars 81 = .ok (.invokevirtual 216, 3) := by decide +kernel
theorem dX10_bars_84 : decode cX10_bars 84 = .ok (.if_icmp .ge 7, 3) := by decide +kernel
theorem dX10_bars_87 : decode cX10_bars 87 = .ok (.iconst 2, 1) := by decide +kernel
theorem dX10_bars_88 : decode cX10_bars 88 = .ok (.goto 4, 3) := by decide +kernel
theorem dX10_bars_91 : decode cX10_bars 91 = .ok (.iconst 0, 1) := by decide +kernel
theorem dX10_bars_92 : decode cX10_bars 92 = .ok (.iadd, 1) := by decide +kernel
theorem dX10_bars_93 : decode cX10_bars 93 = .ok (.istore_n 3, 1) := by decide +kernel
theorem dX10_bars_94 : decode cX10_bars 94 = .ok (.iload_n 2, 1) := by decide +kernel
theorem dX10_bars_95 : decode cX10_bars 95 = .ok (.bipush 6, 2) := by decide +kernel
theorem dX10_bars_97 : decode cX10_bars 97 = .ok (.irem, 1) := by decide +kernel
theorem dX10_bars_98 : decode cX10_bars 98 = .ok (.ifCond .le 16, 3) := by decide +kernel
theorem dX10_bars_101 : decode cX10_bars 101 = .ok (.aload_n 0, 1) := by decide +kernel
theorem dX10_bars_102 : decode cX10_bars 102 = .ok (.iload_n 1, 1) := by decide +kernel
theorem dX10_bars_103 : decode cX10_bars 103 = .ok (.iload_n 2, 1) := by decide +kernel
theorem dX10_bars_104 : decode cX10_bars 104 = .ok (.iconst 1, 1) := by decide +kernel
theorem dX10_bars_105 : decode cX10_bars 105 = .ok (.isub, 1) := by decide +kernel
theorem dX10_bars_106 : decode cX10_bars 106 = .ok (.iload 4, 2) := by decide +kernel
theorem dX10_bars_108 : decode cX10_bars 108 = .ok (.invokevirtual 220, 3) := by decide +kernel
theorem dX10_bars_111 : decode cX10_bars 111 = .ok (.ifCond .ne 24, 3) := by decide +kernel
theorem dX10_bars_114 : decode cX10_bars 114 = .ok (.iload_n 2, 1) := by decide +kernel
theorem dX10_bars_115 : decode cX10_bars 115 = .ok (.bipush 6, 2) := by decide +kernel
theorem dX10_bars_117 : decode cX10_bars 117 = .ok (.irem, 1) := by decide +kernel
theorem dX10_bars_118 : decode cX10_bars 118 = .ok (.iconst 5, 1) := by decide +kernel
theorem dX10_bars_119 : decode cX10_bars 119 = .ok (.if_icmp .ge 20, 3) := by decide +kernel
theorem dX10_bars_122 : decode cX10_bars 122 = .ok (.aload_n 0, 1) := by decide +kernel
theorem dX10_bars_123 : decode cX10_bars 123 = .ok (.iload_n 1, 1) := by decide +kernel
theorem dX10_bars_124 : decode cX10_bars 124 = .ok (.iload_n 2, 1) := by decide +kernel
theorem dX10_bars_125 : decode cX10_bars 125 = .ok (.iconst 1, 1) := by decide +kernel
theorem dX10_bars_126 : decode cX10_bars 126 = .ok (.iadd, 1) := by decide +kernel
theorem dX10_bars_127 : decode cX10_bars 127 = .ok (.iload 4, 2) := by decide +kernel
theorem dX10_bars_129 : decode cX10_bars 129 = .ok (.invokevirtual 220, 3) := by decide +kernel
theorem dX10_bars_132 : decode cX10_bars 132 = .ok (.ifCond .eq 7, 3) := by decide +kernel
theorem dX10_bars_135 : decode cX10_bars 135 = .ok (.iconst 1, 1) := by decide +kernel
theorem dX10_bars_136 : decode cX10_bars 136 = .ok (.goto 4, 3) := by decide +kernel
theorem dX10_bars_139 : decode cX10_bars 139 = .ok (.iconst 0, 1) := by decide +kernel
theorem dX10_bars_140 : decode cX10_bars 140 = .ok (.istore 5, 2) := by decide +kernel
theorem dX10_bars_142 : decode cX10_bars 142 = .ok (.iload_n 3, 1) := by decide +kernel
theorem dX10_bars_143 : decode cX10_bars 143 = .ok (.iload 5, 2) := by decide +kernel
theorem dX10_bars_145 : decode cX10_bars 145 = .ok (.ifCond .eq 7, 3) := by decide +kernel
theorem dX10_bars_148 : decode cX10_bars 148 = .ok (.iconst 4, 1) := by decide +kernel
theorem dX10_bars_149 : decode cX10_bars 149 = .ok (.goto 4, 3) := by decide +kernel
theorem dX10_bars_152 : decode cX10_bars 152 = .ok (.iconst 0, 1) := by decide +kernel
theorem dX10_bars_153 : decode cX10_bars 153 = .ok (.iadd, 1) := by decide +kernel
theorem dX10_bars_154 : decode cX10_bars 154 = .ok (.ireturn, 1) := by decide +kernel
set_option maxRecDepth 20000 in
theorem ggX10_due_X10_lastOf : GoodIn wsX10_due wsX10_lastOf := goodIn_r _ [7, 8, 9, 10, 11, 12, 13, 14, 15, 16, 17, 18, 19, 20, 21, 22, 23, 24, 25, 26, 27, 28, 29, 30, 31, 32, 33, 34, 35, 36, 37, 38, 39, 40, 41, 42, 43, 44, 45, 46, 47, 48] (by decide +kernel) (by decide +kernel)
set_option maxRecDepth 20000 in
theorem gX10_due_X10_lastOf : GoodIn wsX10_due (wsV RX10 216 RX10 yX10_lastOf wsX10_lastOf) := goodIn_app (goodIn_of _ (by decide +kernel)) ggX10_due_X10_lastOf
theorem dX10_due_0 : decode cX10_due 0 = .ok (.iconst 0, 1) := by decide +kernel
theorem dX10_due_1 : decode cX10_due 1 = .ok (.istore_n 1, 1) := by decide +kernel
theorem dX10_due_2 : decode cX10_due 2 = .ok (.iconst 0, 1) := by decide +kernel
theorem dX10_due_3 : decode cX10_due 3 = .ok (.istore_n 2, 1) := by decide +kernel
theorem dX10_due_4 : decode cX10_due 4 = .ok (.iload_n 2, 1) := by decide +kernel
theorem dX10_due_5 : decode cX10_due 5 = .ok (.bipush 8, 2) := by decide +kernel
theorem dX10_due_7 : decode cX10_due 7 = .ok (.if_icmp .ge 68, 3) := by decide +kernel
theorem dX10_due_10 : decode cX10_due 10 = .ok (.aload_n 0, 1) := by decide +kernel
theorem dX10_due_11 : decode cX10_due 11 = .ok (.iconst 3, 1) := by decide +kernel
theorem dX10_due_12 : decode cX10_due 12 = .ok (.iload_n 2, 1) := by decide +kernel
theorem dX10_due_13 : decode cX10_due 13 = .ok (.iconst 0, 1) := by decide +kernel
theorem dX10_due_14 : decode cX10_due 14 = .ok (.invokevirtual 216, 3) := by decide +kernel
theorem dX10_due_17 : decode cX10_due 17 = .ok (.istore_n 3, 1) := by decide +kernel
theorem dX10_due_18 : decode cX10_due 18 = .ok (.iload_n 3, 1) := by decide +kernel
theorem dX10_due_19 : decode cX10_due 19 = .ok (.ifCond .le 32, 3) := by decide +kernel
theorem dX10_due_22 : decode cX10_due 22 = .ok (.aload_n 0, 1) := by decide +kernel
theorem dX10_due_23 : decode cX10_due 23 = .ok (.getfield 47, 3) := by decide +kernel
theorem dX10_due_26 : decode cX10_due 26 = .ok (.iload_n 2, 1) := by decide +kernel
theorem dX10_due_27 : decode cX10_due 27 = .ok (.iaload, 1) := by decide +kernel
theorem dX10_due_28 : decode cX10_due 28 = .ok (.iconst (-1), 1) := by decide +kernel
theorem dX10_due_29 : decode cX10_due 29 = .ok (.if_icmp .eq 18, 3) := by decide +kernel
theorem dX10_due_32 : decode cX10_due 32 = .ok (.aload_n 0, 1) := by decide +kernel
theorem dX10_due_33 : decode cX10_due 33 = .ok (.getfield 125, 3) := by decide +kernel
theorem dX10_due_36 : decode cX10_due 36 = .ok (.aload_n 0, 1) := by decide +kernel
theorem dX10_due_37 : decode cX10_due 37 = .ok (.getfield 47, 3) := by decide +kernel
theorem dX10_due_40 : decode cX10_due 40 = .ok (.iload_n 2, 1) := by decide +kernel
theorem dX10_due_41 : decode cX10_due 41 = .ok (.iaload, 1) := by decide +kernel
theorem dX10_due_42 : decode cX10_due 42 = .ok (.isub, 1) := by decide +kernel
theorem dX10_due_43 : decode cX10_due 43 = .ok (.iload_n 3, 1) := by decide +kernel
theorem dX10_due_44 : decode cX10_due 44 = .ok (.if_icmp .lt 7, 3) := by decide +kernel
theorem dX10_due_47 : decode cX10_due 47 = .ok (.iconst 1, 1) := by decide +kernel
theorem dX10_due_48 : decode cX10_due 48 = .ok (.goto 4, 3) := by decide +kernel
theorem dX10_due_51 : decode cX10_due 51 = .ok (.iconst 0, 1) := by decide +kernel
theorem dX10_due_52 : decode cX10_due 52 = .ok (.istore 4, 2) := by decide +kernel
theorem dX10_due_54 : decode cX10_due 54 = .ok (.iload_n 1, 1) := by decide +kernel
theorem dX10_due_55 : decode cX10_due 55 = .ok (.iload 4, 2) := by decide +kernel
theorem dX10_due_57 : decode cX10_due 57 = .ok (.ifCond .eq 9, 3) := by decide +kernel
theorem dX10_due_60 : decode cX10_due 60 = .ok (.iconst 1, 1) := by decide +kernel
theorem dX10_due_61 : decode cX10_due 61 = .ok (.iload_n 2, 1) := by decide +kernel
theorem dX10_due_62 : decode cX10_due 62 = .ok (.ishl, 1) := by decide +kernel
theorem dX10_due_63 : decode cX10_due 63 = .ok (.goto 4, 3) := by decide +kernel
theorem dX10_due_66 : decode cX10_due 66 = .ok (.iconst 0, 1) := by decide +kernel
theorem dX10_due_67 : decode cX10_due 67 = .ok (.ior, 1) := by decide +kernel
theorem dX10_due_68 : decode cX10_due 68 = .ok (.istore_n 1, 1) := by decide +kernel
theorem dX10_due_69 : decode cX10_due 69 = .ok (.iinc 2 1, 3) := by decide +kernel
theorem dX10_due_72 : decode cX10_due 72 = .ok (.goto (-68), 3) := by decide +kernel
theorem dX10_due_75 : decode cX10_due 75 = .ok (.iload_n 1, 1) := by decide +kernel
theorem dX10_due_76 : decode cX10_due 76 = .ok (.ireturn, 1) := by decide +kernel
set_option maxHeartbeats 4000000 in
set_option maxRecDepth 100000 in
theorem k_X10_lastOf (l : Launch) (dC : Nat → ClassId) (dI : Nat → Nat → Nat) (cI cZ cQ : ClassId) (b : Nat → Nat) (mday : Int32) (mdoo : Int32) (mdA : Nat → Int32) (mdB : Nat → Int32) (mfar : Nat → Int32) (mmar : Nat → Int32) (mtel : Int32) (mgai : Int32) (mfal : Nat → Int32) (mtop : Nat → Int32) (mstr : Nat → Int32) (mgho : Nat → Int32) (mfai : Nat → Int32) (mpto : Nat → Int32) (mwal : Nat → Int32) (mahd : Nat → Int32) (mahf : Nat → Int32) (mcho : Nat → Int32) (mbes : Nat → Int32) (mbyt : Int32) (mtxt : Nat → Int32) (mpos : Int32) (mtka : Int32) (mtok : Int64) (mdig : Int32) (mnum : Int32) (mfau : Int32) (mrdm : Int32) (mrea : Nat → Int32) (mlin : Int32) (mlne : Nat → Int32) (mthg : Nat → Int32) (mord : Nat → Int32) (mbor : Nat → Int32) (mbsm : Int32) (mans : Nat → Int32) (mand : Nat → Int32) (manr : Nat → Int32) (mali : Nat → Int32) (so : Int32) (ro : Int32) (wi : Int32) (r_mday : 0 ≤ mday.toInt ∧ mday.toInt ≤ 400) (r_mdoo : 0 ≤ mdoo.toInt ∧ mdoo.toInt ≤ 14) (r_mdA : rg 14 (0) (7) mdA) (r_mdB : rg 14 (0) (7) mdB) (r_mmar : rg 24 (0) (255) mmar) (r_mgai : 0 ≤ mgai.toInt ∧ mgai.toInt ≤ 100) (r_mfal : rg 11 (0) (30) mfal) (r_mtop : rg 48 (-1) (23) mtop) (r_mstr : rg 48 (0) (100) mstr) (r_mgho : rg 48 (-1) (23) mgho) (r_mfai : rg 48 (0) (100) mfai) (r_mahd : rg 240 (0) (100) mahd) (r_mahf : rg 240 (0) (100) mahf) (r_mcho : rg 5 (-1) (9) mcho) (r_mbyt : 0 ≤ mbyt.toInt ∧ mbyt.toInt ≤ 160) (r_mpos : 0 ≤ mpos.toInt ∧ mpos.toInt ≤ 160) (r_mrdm : 0 ≤ mrdm.toInt ∧ mrdm.toInt ≤ 10) (r_mlin : 0 ≤ mlin.toInt ∧ mlin.toInt ≤ 10) (r_mthg : rg 8 (0) (31) mthg) (r_mord : rg 8 (-1) (8) mord) (r_mans : rg 4 (0) (12) mans) : KR l yX10_lastOf wsX10_lastOf { frames := 0, cells := 0, slots := 0, locals := 0 } (dC, dI) (TY cI cZ cQ) (wMod cI cZ cQ b mday mdoo mdA mdB mfar mmar mtel mgai mfal mtop mstr mgho mfai mpto mwal mahd mahf mcho mbes mbyt mtxt mpos mtka mtok mdig mnum mfau mrdm mrea mlin mlne mthg mord mbor mbsm mans mand manr mali) [.ref (b 39), .int so, .int ro, .int wi] (fun r : Int32 => True) := by
  refine Met.ofW (cc := cX10_lastOf) (maxL := 6) (ret := (some .int)) (by decide) rfl ?_
  intro p e s m args below meth c s₁ B hml hv
  obtain ⟨rfl, hP, hK, hN⟩ := hv
  have hx := B.exec
  have hb := B.bytes
  have hr := B.returns
  have hts := atoms_spec (ws := wsX10_lastOf) B.pre
  have hown : s.vm.findClass RX10 = some m.cls := findClass_of_methodNamed B.named
  have hlocks := B.notSynchronized
  have lf210 := hts (.fieldLink RX10 210 "PalaceOfRoomsModel" "lines" "I") (by decide +kernel)
  have inX10 : ∀ w ∈ wsX100, w ∈ wsX10_lastOf := by decide +kernel
  have lf68 := hts (.fieldLink RX10 68 "PalaceOfRoomsModel" "line" "[I") (by decide +kernel)
  have hl := lv_entry ([.ref (b 39), .int so, .int ro, .int wi]) (n := 6) (Nat.le_of_ble_eq_true rfl)
  rw [lg_entry_eq]
  generalize (lg_sl ([.ref (b 39), .int so, .int ro, .int wi]) ++ List.replicate (6 - (lg_sl ([.ref (b 39), .int so, .int ro, .int wi])).length) Slot.unset).toArray = ls at hl ⊢
  have hl : lv_has ls 6 [(0, .ref (b 39)), (1, .int so), (2, .int ro), (3, .int wi)] := hl
  refine lv_iload_n hx hb dX10_lastOf_0 rfl (lv_at hl 3 rfl) ?_
  refine lv_istore (lv' := [(4, .int wi), (0, .ref (b 39)), (1, .int so), (2, .int ro), (3, .int wi)]) hx hb dX10_lastOf_1 hl (by decide) rfl (fun ls hl => ?_)
  refine lv_iconst (v := 0) hx hb dX10_lastOf_3 (by decide) ?_
  refine lv_istore (lv' := [(5, .int 0), (4, .int wi), (0, .ref (b 39)), (1, .int so), (2, .int ro), (3, .int wi)]) hx hb dX10_lastOf_4 hl (by decide) rfl (fun ls hl => ?_)
  have L6 : ∀ (nn : Nat) (y6_4 : Int32) (y6_5 : Int32) (ls : Array Slot), (0 ≤ (y6_5.toInt)) → ((y6_5.toInt) ≤ 10) → (10 - (y6_5.toInt)).toNat < nn → lv_has ls 6 [(0, .ref (b 39)), (1, .int so), (2, .int ro), (4, .int y6_4), (5, .int y6_5)] → W p l e (headSpec wsX10_lastOf { frames := 0, cells := 0, slots := 0, locals := 0 }).room s m ([.ref (b 39), .int so, .int ro, .int wi] : List Value).toArray below meth c s.heap [] 0 0 (MQ below (QR (fun r : Int32 => True)) ([.ref (b 39), .int so, .int ro, .int wi] : List Value).toArray s 0 0 (fun _ => False)) (F0 m 6 ls []) := by
    intro nn
    induction nn with
    | zero =>
      intro y6_4 y6_5 ls i6_0 i6_1 hm
      exact absurd hm (Nat.not_lt_zero _)
    | succ nn ih6 =>
      intro y6_4 y6_5 ls i6_0 i6_1 hm hl
      refine lv_iload hx hb dX10_lastOf_6 (lv_at hl 4 rfl) ?_
      refine lv_aload_n hx hb dX10_lastOf_8 rfl (lv_at hl 0 rfl) ?_
      refine va_get (D := (dC, dI)) (ci := 10) (v := .int mlin) (C := RX10) (T := TX10) (N := 39) hx hb hts inX10 hown hK hP 0 rfl rfl 29 (by decide) lf210 (fun _ h9 => h9) rfl dX10_lastOf_9 ?_
      refine lv_icmp_ge (tgt := 67) hx hb dX10_lastOf_12 (by decide) (fun c1 => ?_) (fun c1 => ?_)
      · have dc1 : mlin.toInt ≤ y6_5.toInt := leC rfl rfl c1
        refine lv_iload hx hb dX10_lastOf_67 (lv_at hl 3 rfl) ?_
        exact W.iret (v := y6_4) hx hb hr (fun tq ht hW => ⟨y6_4, rfl, trivial, ht⟩) (fun q h => by cases h) dX10_lastOf_69
      · have dc1 : y6_5.toInt < mlin.toInt := nleC rfl rfl c1
        refine lv_aload_n hx hb dX10_lastOf_15 rfl (lv_at hl 0 rfl) ?_
        refine va_get (D := (dC, dI)) (ci := 10) (v := .ref (b 30)) (C := RX10) (T := TX10) (N := 39) hx hb hts inX10 hown hK hP 0 rfl rfl 30 (by decide) lf68 (fun _ h9 => h9) rfl dX10_lastOf_16 ?_
        refine lv_iconst (v := 3) hx hb dX10_lastOf_19 (by decide) ?_
        refine lv_iload hx hb dX10_lastOf_20 (lv_at hl 4 rfl) ?_
        refine lv_imul hx hb dX10_lastOf_22 ?_
        have f2 : (3 * y6_5).toInt = (3) * (y6_5.toInt) := mulC (show (3 : Int32).toInt = 3 from rfl) rfl (by omega) (by omega)
        have b3 : vp_in (3 * y6_5) 30 := inC f2 (by omega) (by omega)
        refine va_iald hx hb hK hP 18 0 rfl rfl b3 dX10_lastOf_23 ?_
        refine lv_iload_n hx hb dX10_lastOf_24 rfl (lv_at hl 1 rfl) ?_
        refine lv_icmp_ne (tgt := 57) hx hb dX10_lastOf_25 (by decide) (fun c4 => ?_) (fun c4 => ?_)
        · have dc4 : (mlne (3 * y6_5).toNatClampNeg).toInt ≠ so.toInt := neC rfl rfl c4
          refine lv_iload hx hb dX10_lastOf_57 (lv_at hl 3 rfl) ?_
          refine lv_istore (lv' := [(4, .int y6_4), (0, .ref (b 39)), (1, .int so), (2, .int ro), (5, .int y6_5)]) hx hb dX10_lastOf_59 hl (by decide) rfl (fun ls hl => ?_)
          obtain ⟨z5, ez5⟩ : ∃ y : Int32, y = y6_5 + 1 := ⟨_, rfl⟩
          have iz5 : z5.toInt = y6_5.toInt + 1 := by rw [ez5]; exact addC rfl rfl (by omega) (by omega)
          refine lv_iinc (v := z5) (lv' := [(5, .int z5), (4, .int y6_4), (0, .ref (b 39)), (1, .int so), (2, .int ro)]) hx hb dX10_lastOf_61 hl (k := 4) rfl (by rw [ez5]; rfl) (by decide) rfl (fun ls hl => ?_)
          refine lv_goto (tgt := 6) hx hb dX10_lastOf_64 (by decide) ?_
          exact ih6 y6_4 z5 _ (by omega) (by omega) (by omega) (lv_sub hl [2, 3, 4, 1, 0] rfl)
        · have dc4 : (mlne (3 * y6_5).toNatClampNeg).toInt = so.toInt := eqC rfl rfl c4
          refine lv_aload_n hx hb dX10_lastOf_28 rfl (lv_at hl 0 rfl) ?_
          refine va_get (D := (dC, dI)) (ci := 10) (v := .ref (b 30)) (C := RX10) (T := TX10) (N := 39) hx hb hts inX10 hown hK hP 0 rfl rfl 30 (by decide) lf68 (fun _ h9 => h9) rfl dX10_lastOf_29 ?_
          refine lv_iconst (v := 3) hx hb dX10_lastOf_32 (by decide) ?_
          refine lv_iload hx hb dX10_lastOf_33 (lv_at hl 4 rfl) ?_
          refine lv_imul hx hb dX10_lastOf_35 ?_
          have f6 : (3 * y6_5).toInt = (3) * (y6_5.toInt) := mulC (show (3 : Int32).toInt = 3 from rfl) rfl (by omega) (by omega)
          refine lv_iconst (v := 1) hx hb dX10_lastOf_36 (by decide) ?_
          refine lv_iadd hx hb dX10_lastOf_37 ?_
          have f7 : ((3 * y6_5) + 1).toInt = ((3) * (y6_5.toInt)) + (1) := addC f6 (show (1 : Int32).toInt = 1 from rfl) (by omega) (by omega)
          have b8 : vp_in ((3 * y6_5) + 1) 30 := inC f7 (by omega) (by omega)
          refine va_iald hx hb hK hP 18 0 rfl rfl b8 dX10_lastOf_38 ?_
          refine lv_iload_n hx hb dX10_lastOf_39 rfl (lv_at hl 2 rfl) ?_
          refine lv_icmp_ne (tgt := 57) hx hb dX10_lastOf_40 (by decide) (fun c9 => ?_) (fun c9 => ?_)
          · have dc9 : (mlne ((3 * y6_5) + 1).toNatClampNeg).toInt ≠ ro.toInt := neC rfl rfl c9
            refine lv_iload hx hb dX10_lastOf_57 (lv_at hl 3 rfl) ?_
            refine lv_istore (lv' := [(4, .int y6_4), (0, .ref (b 39)), (1, .int so), (2, .int ro), (5, .int y6_5)]) hx hb dX10_lastOf_59 hl (by decide) rfl (fun ls hl => ?_)
            obtain ⟨z10, ez10⟩ : ∃ y : Int32, y = y6_5 + 1 := ⟨_, rfl⟩
            have iz10 : z10.toInt = y6_5.toInt + 1 := by rw [ez10]; exact addC rfl rfl (by omega) (by omega)
            refine lv_iinc (v := z10) (lv' := [(5, .int z10), (4, .int y6_4), (0, .ref (b 39)), (1, .int so), (2, .int ro)]) hx hb dX10_lastOf_61 hl (k := 4) rfl (by rw [ez10]; rfl) (by decide) rfl (fun ls hl => ?_)
            refine lv_goto (tgt := 6) hx hb dX10_lastOf_64 (by decide) ?_
            exact ih6 y6_4 z10 _ (by omega) (by omega) (by omega) (lv_sub hl [2, 3, 4, 1, 0] rfl)
          · have dc9 : (mlne ((3 * y6_5) + 1).toNatClampNeg).toInt = ro.toInt := eqC rfl rfl c9
            refine lv_aload_n hx hb dX10_lastOf_43 rfl (lv_at hl 0 rfl) ?_
            refine va_get (D := (dC, dI)) (ci := 10) (v := .ref (b 30)) (C := RX10) (T := TX10) (N := 39) hx hb hts inX10 hown hK hP 0 rfl rfl 30 (by decide) lf68 (fun _ h9 => h9) rfl dX10_lastOf_44 ?_
            refine lv_iconst (v := 3) hx hb dX10_lastOf_47 (by decide) ?_
            refine lv_iload hx hb dX10_lastOf_48 (lv_at hl 4 rfl) ?_
            refine lv_imul hx hb dX10_lastOf_50 ?_
            have f11 : (3 * y6_5).toInt = (3) * (y6_5.toInt) := mulC (show (3 : Int32).toInt = 3 from rfl) rfl (by omega) (by omega)
            refine lv_iconst (v := 2) hx hb dX10_lastOf_51 (by decide) ?_
            refine lv_iadd hx hb dX10_lastOf_52 ?_
            have f12 : ((3 * y6_5) + 2).toInt = ((3) * (y6_5.toInt)) + (2) := addC f11 (show (2 : Int32).toInt = 2 from rfl) (by omega) (by omega)
            have b13 : vp_in ((3 * y6_5) + 2) 30 := inC f12 (by omega) (by omega)
            refine va_iald hx hb hK hP 18 0 rfl rfl b13 dX10_lastOf_53 ?_
            refine lv_goto (tgt := 59) hx hb dX10_lastOf_54 (by decide) ?_
            refine lv_topi (fun x14 ex14 => ?_)
            have ix14 : x14.toInt = (mlne ((3 * y6_5) + 2).toNatClampNeg).toInt := by rw [ex14]
            refine lv_istore (lv' := [(4, .int x14), (0, .ref (b 39)), (1, .int so), (2, .int ro), (5, .int y6_5)]) hx hb dX10_lastOf_59 hl (by decide) rfl (fun ls hl => ?_)
            obtain ⟨z15, ez15⟩ : ∃ y : Int32, y = y6_5 + 1 := ⟨_, rfl⟩
            have iz15 : z15.toInt = y6_5.toInt + 1 := by rw [ez15]; exact addC rfl rfl (by omega) (by omega)
            refine lv_iinc (v := z15) (lv' := [(5, .int z15), (4, .int x14), (0, .ref (b 39)), (1, .int so), (2, .int ro)]) hx hb dX10_lastOf_61 hl (k := 4) rfl (by rw [ez15]; rfl) (by decide) rfl (fun ls hl => ?_)
            refine lv_goto (tgt := 6) hx hb dX10_lastOf_64 (by decide) ?_
            exact ih6 x14 z15 _ (by omega) (by omega) (by omega) (lv_sub hl [2, 3, 4, 1, 0] rfl)
  have kc16 : (0 : Int32).toInt = 0 := rfl
  exact L6 _ wi 0 _ (by omega) (by omega) (Nat.lt_succ_self _) (lv_sub hl [2, 3, 4, 1, 0] rfl)
set_option maxHeartbeats 4000000 in
set_option maxRecDepth 100000 in
theorem k_X10_standIn (l : Launch) (dC : Nat → ClassId) (dI : Nat → Nat → Nat) (cI cZ cQ : ClassId) (b : Nat → Nat) (mday : Int32) (mdoo : Int32) (mdA : Nat → Int32) (mdB : Nat → Int32) (mfar : Nat → Int32) (mmar : Nat → Int32) (mtel : Int32) (mgai : Int32) (mfal : Nat → Int32) (mtop : Nat → Int32) (mstr : Nat → Int32) (mgho : Nat → Int32) (mfai : Nat → Int32) (mpto : Nat → Int32) (mwal : Nat → Int32) (mahd : Nat → Int32) (mahf : Nat → Int32) (mcho : Nat → Int32) (mbes : Nat → Int32) (mbyt : Int32) (mtxt : Nat → Int32) (mpos : Int32) (mtka : Int32) (mtok : Int64) (mdig : Int32) (mnum : Int32) (mfau : Int32) (mrdm : Int32) (mrea : Nat → Int32) (mlin : Int32) (mlne : Nat → Int32) (mthg : Nat → Int32) (mord : Nat → Int32) (mbor : Nat → Int32) (mbsm : Int32) (mans : Nat → Int32) (mand : Nat → Int32) (manr : Nat → Int32) (mali : Nat → Int32) (ro : Int32) (r_mday : 0 ≤ mday.toInt ∧ mday.toInt ≤ 400) (r_mdoo : 0 ≤ mdoo.toInt ∧ mdoo.toInt ≤ 14) (r_mdA : rg 14 (0) (7) mdA) (r_mdB : rg 14 (0) (7) mdB) (r_mmar : rg 24 (0) (255) mmar) (r_mgai : 0 ≤ mgai.toInt ∧ mgai.toInt ≤ 100) (r_mfal : rg 11 (0) (30) mfal) (r_mtop : rg 48 (-1) (23) mtop) (r_mstr : rg 48 (0) (100) mstr) (r_mgho : rg 48 (-1) (23) mgho) (r_mfai : rg 48 (0) (100) mfai) (r_mahd : rg 240 (0) (100) mahd) (r_mahf : rg 240 (0) (100) mahf) (r_mcho : rg 5 (-1) (9) mcho) (r_mbyt : 0 ≤ mbyt.toInt ∧ mbyt.toInt ≤ 160) (r_mpos : 0 ≤ mpos.toInt ∧ mpos.toInt ≤ 160) (r_mrdm : 0 ≤ mrdm.toInt ∧ mrdm.toInt ≤ 10) (r_mlin : 0 ≤ mlin.toInt ∧ mlin.toInt ≤ 10) (r_mthg : rg 8 (0) (31) mthg) (r_mord : rg 8 (-1) (8) mord) (r_mans : rg 4 (0) (12) mans) (q0 : 0 ≤ ro.toInt) (q1 : ro.toInt ≤ 7) : KR l yX10_standIn wsX10_standIn { frames := 0, cells := 0, slots := 0, locals := 0 } (dC, dI) (TY cI cZ cQ) (wMod cI cZ cQ b mday mdoo mdA mdB mfar mmar mtel mgai mfal mtop mstr mgho mfai mpto mwal mahd mahf mcho mbes mbyt mtxt mpos mtka mtok mdig mnum mfau mrdm mrea mlin mlne mthg mord mbor mbsm mans mand manr mali) [.ref (b 39), .int ro] (fun r : Int32 => True) := by
  refine Met.ofW (cc := cX10_standIn) (maxL := 4) (ret := (some .int)) (by decide) rfl ?_
  intro p e s m args below meth c s₁ B hml hv
  obtain ⟨rfl, hP, hK, hN⟩ := hv
  have hx := B.exec
  have hb := B.bytes
  have hr := B.returns
  have hts := atoms_spec (ws := wsX10_standIn) B.pre
  have hown : s.vm.findClass RX10 = some m.cls := findClass_of_methodNamed B.named
  have hlocks := B.notSynchronized
  have lf32 := hts (.fieldLink RX10 32 "PalaceOfRoomsModel" "top" "[I") (by decide +kernel)
  have inX10 : ∀ w ∈ wsX100, w ∈ wsX10_standIn := by decide +kernel
  have hl := lv_entry ([.ref (b 39), .int ro]) (n := 4) (Nat.le_of_ble_eq_true rfl)
  rw [lg_entry_eq]
  generalize (lg_sl ([.ref (b 39), .int ro]) ++ List.replicate (4 - (lg_sl ([.ref (b 39), .int ro])).length) Slot.unset).toArray = ls at hl ⊢
  have hl : lv_has ls 4 [(0, .ref (b 39)), (1, .int ro)] := hl
  refine lv_iconst (v := 0) hx hb dX10_standIn_0 (by decide) ?_
  refine lv_istore_n (lv' := [(2, .int 0), (0, .ref (b 39)), (1, .int ro)]) hx hb dX10_standIn_1 rfl hl (by decide) rfl (fun ls hl => ?_)
  refine lv_bipush (v := 6) hx hb dX10_standIn_2 (by decide) ?_
  refine lv_iload_n hx hb dX10_standIn_4 rfl (lv_at hl 2 rfl) ?_
  refine lv_imul hx hb dX10_standIn_5 ?_
  have f1 : (6 * ro).toInt = (6) * (ro.toInt) := mulC (show (6 : Int32).toInt = 6 from rfl) rfl (by omega) (by omega)
  refine lv_topi (fun x2 ex2 => ?_)
  have ix2 : x2.toInt = (6) * (ro.toInt) := by rw [ex2]; exact f1
  refine lv_istore_n (lv' := [(3, .int x2), (2, .int 0), (0, .ref (b 39)), (1, .int ro)]) hx hb dX10_standIn_6 rfl hl (by decide) rfl (fun ls hl => ?_)
  have L7 : ∀ (nn : Nat) (y7_2 : Int32) (y7_3 : Int32) (ls : Array Slot), (0 ≤ (y7_3.toInt)) → ((y7_3.toInt) ≤ 48) → (48 - (y7_3.toInt)).toNat < nn → lv_has ls 4 [(0, .ref (b 39)), (1, .int ro), (2, .int y7_2), (3, .int y7_3)] → W p l e (headSpec wsX10_standIn { frames := 0, cells := 0, slots := 0, locals := 0 }).room s m ([.ref (b 39), .int ro] : List Value).toArray below meth c s.heap [] 0 0 (MQ below (QR (fun r : Int32 => True)) ([.ref (b 39), .int ro] : List Value).toArray s 0 0 (fun _ => False)) (F0 m 7 ls []) := by
    intro nn
    induction nn with
    | zero =>
      intro y7_2 y7_3 ls i7_0 i7_1 hm
      exact absurd hm (Nat.not_lt_zero _)
    | succ nn ih7 =>
      intro y7_2 y7_3 ls i7_0 i7_1 hm hl
      refine lv_iload_n hx hb dX10_standIn_7 rfl (lv_at hl 3 rfl) ?_
      refine lv_bipush (v := 6) hx hb dX10_standIn_8 (by decide) ?_
      refine lv_iload_n hx hb dX10_standIn_10 rfl (lv_at hl 1 rfl) ?_
      refine lv_imul hx hb dX10_standIn_11 ?_
      have f3 : (6 * ro).toInt = (6) * (ro.toInt) := mulC (show (6 : Int32).toInt = 6 from rfl) rfl (by omega) (by omega)
      refine lv_bipush (v := 6) hx hb dX10_standIn_12 (by decide) ?_
      refine lv_iadd hx hb dX10_standIn_14 ?_
      have f4 : ((6 * ro) + 6).toInt = ((6) * (ro.toInt)) + (6) := addC f3 (show (6 : Int32).toInt = 6 from rfl) (by omega) (by omega)
      refine lv_icmp_ge (tgt := 42) hx hb dX10_standIn_15 (by decide) (fun c5 => ?_) (fun c5 => ?_)
      · have dc5 : ((6) * (ro.toInt)) + (6) ≤ y7_3.toInt := leC f4 rfl c5
        refine lv_iload_n hx hb dX10_standIn_42 rfl (lv_at hl 2 rfl) ?_
        exact W.iret (v := y7_2) hx hb hr (fun tq ht hW => ⟨y7_2, rfl, trivial, ht⟩) (fun q h => by cases h) dX10_standIn_43
      · have dc5 : y7_3.toInt < ((6) * (ro.toInt)) + (6) := nleC f4 rfl c5
        refine lv_iload_n hx hb dX10_standIn_18 rfl (lv_at hl 2 rfl) ?_
        refine lv_aload_n hx hb dX10_standIn_19 rfl (lv_at hl 0 rfl) ?_
        refine va_get (D := (dC, dI)) (ci := 10) (v := .ref (b 9)) (C := RX10) (T := TX10) (N := 39) hx hb hts inX10 hown hK hP 0 rfl rfl 9 (by decide) lf32 (fun _ h9 => h9) rfl dX10_standIn_20 ?_
        refine lv_iload_n hx hb dX10_standIn_23 rfl (lv_at hl 3 rfl) ?_
        have b6 : vp_in y7_3 48 := inC rfl (by omega) (by omega)
        refine va_iald hx hb hK hP 6 0 rfl rfl b6 dX10_standIn_24 ?_
        have g7 : -1 ≤ (mtop y7_3.toNatClampNeg).toInt ∧ (mtop y7_3.toNatClampNeg).toInt ≤ 23 := rg_at r_mtop b6
        refine lv_iconst (v := (-1)) hx hb dX10_standIn_25 (by decide) ?_
        refine lv_icmp_ne (tgt := 33) hx hb dX10_standIn_26 (by decide) (fun c8 => ?_) (fun c8 => ?_)
        · have dc8 : (mtop y7_3.toNatClampNeg).toInt ≠ (-1) := neC rfl (show ((-1) : Int32).toInt = (-1) from rfl) c8
          refine lv_iconst (v := 1) hx hb dX10_standIn_33 (by decide) ?_
          refine lv_iadd hx hb dX10_standIn_34 ?_
          refine lv_topi (fun x9 ex9 => ?_)
          have ix9 : x9.toInt = (y7_2 + 1).toInt := by rw [ex9]
          refine lv_istore_n (lv' := [(2, .int x9), (0, .ref (b 39)), (1, .int ro), (3, .int y7_3)]) hx hb dX10_standIn_35 rfl hl (by decide) rfl (fun ls hl => ?_)
          obtain ⟨z10, ez10⟩ : ∃ y : Int32, y = y7_3 + 1 := ⟨_, rfl⟩
          have iz10 : z10.toInt = y7_3.toInt + 1 := by rw [ez10]; exact addC rfl rfl (by omega) (by omega)
          refine lv_iinc (v := z10) (lv' := [(3, .int z10), (2, .int x9), (0, .ref (b 39)), (1, .int ro)]) hx hb dX10_standIn_36 hl (k := 3) rfl (by rw [ez10]; rfl) (by decide) rfl (fun ls hl => ?_)
          refine lv_goto (tgt := 7) hx hb dX10_standIn_39 (by decide) ?_
          exact ih7 x9 z10 _ (by omega) (by omega) (by omega) (lv_sub hl [2, 3, 1, 0] rfl)
        · have dc8 : (mtop y7_3.toNatClampNeg).toInt = (-1) := eqC rfl (show ((-1) : Int32).toInt = (-1) from rfl) c8
          refine lv_iconst (v := 0) hx hb dX10_standIn_29 (by decide) ?_
          refine lv_goto (tgt := 34) hx hb dX10_standIn_30 (by decide) ?_
          refine lv_iadd hx hb dX10_standIn_34 ?_
          refine lv_topi (fun x11 ex11 => ?_)
          have ix11 : x11.toInt = (y7_2 + 0).toInt := by rw [ex11]
          refine lv_istore_n (lv' := [(2, .int x11), (0, .ref (b 39)), (1, .int ro), (3, .int y7_3)]) hx hb dX10_standIn_35 rfl hl (by decide) rfl (fun ls hl => ?_)
          obtain ⟨z12, ez12⟩ : ∃ y : Int32, y = y7_3 + 1 := ⟨_, rfl⟩
          have iz12 : z12.toInt = y7_3.toInt + 1 := by rw [ez12]; exact addC rfl rfl (by omega) (by omega)
          refine lv_iinc (v := z12) (lv' := [(3, .int z12), (2, .int x11), (0, .ref (b 39)), (1, .int ro)]) hx hb dX10_standIn_36 hl (k := 3) rfl (by rw [ez12]; rfl) (by decide) rfl (fun ls hl => ?_)
          refine lv_goto (tgt := 7) hx hb dX10_standIn_39 (by decide) ?_
          exact ih7 x11 z12 _ (by omega) (by omega) (by omega) (lv_sub hl [2, 3, 1, 0] rfl)
  have kc13 : (0 : Int32).toInt = 0 := rfl
  exact L7 _ 0 x2 _ (by omega) (by omega) (Nat.lt_succ_self _) (lv_sub hl [2, 3, 1, 0] rfl)
set_option maxHeartbeats 4000000 in
set_option maxRecDepth 100000 in
theorem k_X10_isTooLike (l : Launch) (dC : Nat → ClassId) (dI : Nat → Nat → Nat) (cI cZ cQ : ClassId) (b : Nat → Nat) (mday : Int32) (mdoo : Int32) (mdA : Nat → Int32) (mdB : Nat → Int32) (mfar : Nat → Int32) (mmar : Nat → Int32) (mtel : Int32) (mgai : Int32) (mfal : Nat → Int32) (mtop : Nat → Int32) (mstr : Nat → Int32) (mgho : Nat → Int32) (mfai : Nat → Int32) (mpto : Nat → Int32) (mwal : Nat → Int32) (mahd : Nat → Int32) (mahf : Nat → Int32) (mcho : Nat → Int32) (mbes : Nat → Int32) (mbyt : Int32) (mtxt : Nat → Int32) (mpos : Int32) (mtka : Int32) (mtok : Int64) (mdig : Int32) (mnum : Int32) (mfau : Int32) (mrdm : Int32) (mrea : Nat → Int32) (mlin : Int32) (mlne : Nat → Int32) (mthg : Nat → Int32) (mord : Nat → Int32) (mbor : Nat → Int32) (mbsm : Int32) (mans : Nat → Int32) (mand : Nat → Int32) (manr : Nat → Int32) (mali : Nat → Int32) (t : Int32) (co : Int32) (ap : Int32) (r_mday : 0 ≤ mday.toInt ∧ mday.toInt ≤ 400) (r_mdoo : 0 ≤ mdoo.toInt ∧ mdoo.toInt ≤ 14) (r_mdA : rg 14 (0) (7) mdA) (r_mdB : rg 14 (0) (7) mdB) (r_mmar : rg 24 (0) (255) mmar) (r_mgai : 0 ≤ mgai.toInt ∧ mgai.toInt ≤ 100) (r_mfal : rg 11 (0) (30) mfal) (r_mtop : rg 48 (-1) (23) mtop) (r_mstr : rg 48 (0) (100) mstr) (r_mgho : rg 48 (-1) (23) mgho) (r_mfai : rg 48 (0) (100) mfai) (r_mahd : rg 240 (0) (100) mahd) (r_mahf : rg 240 (0) (100) mahf) (r_mcho : rg 5 (-1) (9) mcho) (r_mbyt : 0 ≤ mbyt.toInt ∧ mbyt.toInt ≤ 160) (r_mpos : 0 ≤ mpos.toInt ∧ mpos.toInt ≤ 160) (r_mrdm : 0 ≤ mrdm.toInt ∧ mrdm.toInt ≤ 10) (r_mlin : 0 ≤ mlin.toInt ∧ mlin.toInt ≤ 10) (r_mthg : rg 8 (0) (31) mthg) (r_mord : rg 8 (-1) (8) mord) (r_mans : rg 4 (0) (12) mans) (q0 : 0 ≤ t.toInt) (q1 : t.toInt ≤ 23) (q2 : 0 ≤ co.toInt) (q3 : co.toInt ≤ 47) : KR l yX10_isTooLike wsX10_isTooLike { frames := 1, cells := 0, slots := 0, locals := 25 } (dC, dI) (TY cI cZ cQ) (wMod cI cZ cQ b mday mdoo mdA mdB mfar mmar mtel mgai mfal mtop mstr mgho mfai mpto mwal mahd mahf mcho mbes mbyt mtxt mpos mtka mtok mdig mnum mfau mrdm mrea mlin mlne mthg mord mbor mbsm mans mand manr mali) [.ref (b 39), .int t, .int co, .int ap] (fun r : Int32 => ((((r = 1)) ∨ ((r = 0))))) := by
  refine Met.ofW (cc := cX10_isTooLike) (maxL := 4) (ret := (some .boolean)) (by decide) rfl ?_
  intro p e s m args below meth c s₁ B hml hv
  obtain ⟨rfl, hP, hK, hN⟩ := hv
  have hx := B.exec
  have hb := B.bytes
  have hr := B.returns
  have hts := atoms_spec (ws := wsX10_isTooLike) B.pre
  have hown : s.vm.findClass RX10 = some m.cls := findClass_of_methodNamed B.named
  have hlocks := B.notSynchronized
  have lf32 := hts (.fieldLink RX10 32 "PalaceOfRoomsModel" "top" "[I") (by decide +kernel)
  have inX10 : ∀ w ∈ wsX100, w ∈ wsX10_isTooLike := by decide +kernel
  have hl := lv_entry ([.ref (b 39), .int t, .int co, .int ap]) (n := 4) (Nat.le_of_ble_eq_true rfl)
  rw [lg_entry_eq]
  generalize (lg_sl ([.ref (b 39), .int t, .int co, .int ap]) ++ List.replicate (4 - (lg_sl ([.ref (b 39), .int t, .int co, .int ap])).length) Slot.unset).toArray = ls at hl ⊢
  have hl : lv_has ls 4 [(0, .ref (b 39)), (1, .int t), (2, .int co), (3, .int ap)] := hl
  refine lv_aload_n hx hb dX10_isTooLike_0 rfl (lv_at hl 0 rfl) ?_
  refine va_get (D := (dC, dI)) (ci := 10) (v := .ref (b 9)) (C := RX10) (T := TX10) (N := 39) hx hb hts inX10 hown hK hP 0 rfl rfl 9 (by decide) lf32 (fun _ h9 => h9) rfl dX10_isTooLike_1 ?_
  refine lv_iload_n hx hb dX10_isTooLike_4 rfl (lv_at hl 2 rfl) ?_
  have b1 : vp_in co 48 := inC rfl (by omega) (by omega)
  refine va_iald hx hb hK hP 6 0 rfl rfl b1 dX10_isTooLike_5 ?_
  have g2 : -1 ≤ (mtop co.toNatClampNeg).toInt ∧ (mtop co.toNatClampNeg).toInt ≤ 23 := rg_at r_mtop b1
  refine lv_iconst (v := (-1)) hx hb dX10_isTooLike_6 (by decide) ?_
  refine lv_icmp_eq (tgt := 29) hx hb dX10_isTooLike_7 (by decide) (fun c3 => ?_) (fun c3 => ?_)
  · have dc3 : (mtop co.toNatClampNeg).toInt = (-1) := eqC rfl (show ((-1) : Int32).toInt = (-1) from rfl) c3
    refine lv_iconst (v := 0) hx hb dX10_isTooLike_29 (by decide) ?_
    exact W.zret (v := 0) hx hb hr (by decide) (fun tq ht hW => ⟨0, rfl, (Or.inr rfl), ht⟩) (fun q h => by cases h) dX10_isTooLike_30
  · have dc3 : (mtop co.toNatClampNeg).toInt ≠ (-1) := neC rfl (show ((-1) : Int32).toInt = (-1) from rfl) c3
    refine lv_aload_n hx hb dX10_isTooLike_10 rfl (lv_at hl 0 rfl) ?_
    refine lv_aload_n hx hb dX10_isTooLike_11 rfl (lv_at hl 0 rfl) ?_
    refine va_get (D := (dC, dI)) (ci := 10) (v := .ref (b 9)) (C := RX10) (T := TX10) (N := 39) hx hb hts inX10 hown hK hP 0 rfl rfl 9 (by decide) lf32 (fun _ h9 => h9) rfl dX10_isTooLike_12 ?_
    refine lv_iload_n hx hb dX10_isTooLike_15 rfl (lv_at hl 2 rfl) ?_
    have b4 : vp_in co 48 := inC rfl (by omega) (by omega)
    refine va_iald hx hb hK hP 6 0 rfl rfl b4 dX10_isTooLike_16 ?_
    have g5 : -1 ≤ (mtop co.toNatClampNeg).toInt ∧ (mtop co.toNatClampNeg).toInt ≤ 23 := rg_at r_mtop b4
    refine lv_iload_n hx hb dX10_isTooLike_17 rfl (lv_at hl 1 rfl) ?_
    refine rdV (As := [.int (mtop co.toNatClampNeg), .int t]) (rest := []) ⟨hx, hb, hml, hown, hts⟩ (k_X10_likeness l dC dI cI cZ cQ b mday mdoo mdA mdB mfar mmar mtel mgai mfal mtop mstr mgho mfai mpto mwal mahd mahf mcho mbes mbyt mtxt mpos mtka mtok mdig mnum mfau mrdm mrea mlin mlne mthg mord mbor mbsm mans mand manr mali (mtop co.toNatClampNeg) t r_mday r_mdoo r_mdA r_mdB r_mmar r_mgai r_mfal r_mtop r_mstr r_mgho r_mfai r_mahd r_mahf r_mcho r_mbyt r_mpos r_mrdm r_mlin r_mthg r_mord r_mans (by omega) (by omega) (by omega) (by omega)) (cwV 2 hts gX10_isTooLike_X10_likeness rfl rfl rfl (by decide +kernel) ⟨Nat.le_of_ble_eq_true rfl, Nat.le_of_ble_eq_true rfl⟩) hP hK hN [0, 1, 2, 3, 4, 5, 6, 7, 8, 9, 10, 11, 12, 13, 14, 15, 16, 17, 18, 19, 20, 21, 22, 23, 24, 25] rfl 0 10 rfl rfl rfl hl.1 rfl (Nat.le_of_ble_eq_true rfl) dX10_isTooLike_18 ⟨Nat.le_of_ble_eq_true rfl, Nat.le_of_ble_eq_true rfl⟩ (fun r6 h7 => ?_)
    have h7 : (r6 = bc (mmar (mtop co.toNatClampNeg).toNatClampNeg &&& mmar t.toNatClampNeg)) := h7
    have h7_0 := h7
    refine lv_iload_n hx hb dX10_isTooLike_21 rfl (lv_at hl 3 rfl) ?_
    refine lv_icmp_le (tgt := 29) hx hb dX10_isTooLike_22 (by decide) (fun c8 => ?_) (fun c8 => ?_)
    · have dc8 : r6.toInt ≤ ap.toInt := leC rfl rfl c8
      refine lv_iconst (v := 0) hx hb dX10_isTooLike_29 (by decide) ?_
      exact W.zret (v := 0) hx hb hr (by decide) (fun tq ht hW => ⟨0, rfl, (Or.inr rfl), ht⟩) (fun q h => by cases h) dX10_isTooLike_30
    · have dc8 : ap.toInt < r6.toInt := nleC rfl rfl c8
      refine lv_iconst (v := 1) hx hb dX10_isTooLike_25 (by decide) ?_
      refine lv_goto (tgt := 30) hx hb dX10_isTooLike_26 (by decide) ?_
      exact W.zret (v := 1) hx hb hr (by decide) (fun tq ht hW => ⟨1, rfl, (Or.inl rfl), ht⟩) (fun q h => by cases h) dX10_isTooLike_30
set_option maxHeartbeats 4000000 in
set_option maxRecDepth 100000 in
theorem k_X10_bars (l : Launch) (dC : Nat → ClassId) (dI : Nat → Nat → Nat) (cI cZ cQ : ClassId) (b : Nat → Nat) (mday : Int32) (mdoo : Int32) (mdA : Nat → Int32) (mdB : Nat → Int32) (mfar : Nat → Int32) (mmar : Nat → Int32) (mtel : Int32) (mgai : Int32) (mfal : Nat → Int32) (mtop : Nat → Int32) (mstr : Nat → Int32) (mgho : Nat → Int32) (mfai : Nat → Int32) (mpto : Nat → Int32) (mwal : Nat → Int32) (mahd : Nat → Int32) (mahf : Nat → Int32) (mcho : Nat → Int32) (mbes : Nat → Int32) (mbyt : Int32) (mtxt : Nat → Int32) (mpos : Int32) (mtka : Int32) (mtok : Int64) (mdig : Int32) (mnum : Int32) (mfau : Int32) (mrdm : Int32) (mrea : Nat → Int32) (mlin : Int32) (mlne : Nat → Int32) (mthg : Nat → Int32) (mord : Nat → Int32) (mbor : Nat → Int32) (mbsm : Int32) (mans : Nat → Int32) (mand : Nat → Int32) (manr : Nat → Int32) (mali : Nat → Int32) (t : Int32) (co : Int32) (r_mday : 0 ≤ mday.toInt ∧ mday.toInt ≤ 400) (r_mdoo : 0 ≤ mdoo.toInt ∧ mdoo.toInt ≤ 14) (r_mdA : rg 14 (0) (7) mdA) (r_mdB : rg 14 (0) (7) mdB) (r_mmar : rg 24 (0) (255) mmar) (r_mgai : 0 ≤ mgai.toInt ∧ mgai.toInt ≤ 100) (r_mfal : rg 11 (0) (30) mfal) (r_mtop : rg 48 (-1) (23) mtop) (r_mstr : rg 48 (0) (100) mstr) (r_mgho : rg 48 (-1) (23) mgho) (r_mfai : rg 48 (0) (100) mfai) (r_mahd : rg 240 (0) (100) mahd) (r_mahf : rg 240 (0) (100) mahf) (r_mcho : rg 5 (-1) (9) mcho) (r_mbyt : 0 ≤ mbyt.toInt ∧ mbyt.toInt ≤ 160) (r_mpos : 0 ≤ mpos.toInt ∧ mpos.toInt ≤ 160) (r_mrdm : 0 ≤ mrdm.toInt ∧ mrdm.toInt ≤ 10) (r_mlin : 0 ≤ mlin.toInt ∧ mlin.toInt ≤ 10) (r_mthg : rg 8 (0) (31) mthg) (r_mord : rg 8 (-1) (8) mord) (r_mans : rg 4 (0) (12) mans) : KR l yX10_bars wsX10_bars { frames := 2, cells := 0, slots := 0, locals := 48 } (dC, dI) (TY cI cZ cQ) (wMod cI cZ cQ b mday mdoo mdA mdB mfar mmar mtel mgai mfal mtop mstr mgho mfai mpto mwal mahd mahf mcho mbes mbyt mtxt mpos mtka mtok mdig mnum mfau mrdm mrea mlin mlne mthg mord mbor mbsm mans mand manr mali) [.ref (b 39), .int t, .int co] (fun r : Int32 => True) := by
  refine Met.ofW (cc := cX10_bars) (maxL := 6) (ret := (some .int)) (by decide) rfl ?_
  intro p e s m args below meth c s₁ B hml hv
  obtain ⟨rfl, hP, hK, hN⟩ := hv
  have hx := B.exec
  have hb := B.bytes
  have hr := B.returns
  have hts := atoms_spec (ws := wsX10_bars) B.pre
  have hown : s.vm.findClass RX10 = some m.cls := findClass_of_methodNamed B.named
  have hlocks := B.notSynchronized
  have lf44 := hts (.fieldLink RX10 44 "PalaceOfRoomsModel" "putOn" "[I") (by decide +kernel)
  have inX10 : ∀ w ∈ wsX100, w ∈ wsX10_bars := fun w h => List.mem_cons_of_mem _ (List.mem_append_right _ h)
  have lf125 := hts (.fieldLink RX10 125 "PalaceOfRoomsModel" "day" "I") (by decide +kernel)
  have hl := lv_entry ([.ref (b 39), .int t, .int co]) (n := 6) (Nat.le_of_ble_eq_true rfl)
  rw [lg_entry_eq]
  generalize (lg_sl ([.ref (b 39), .int t, .int co]) ++ List.replicate (6 - (lg_sl ([.ref (b 39), .int t, .int co])).length) Slot.unset).toArray = ls at hl ⊢
  have hl : lv_has ls 6 [(0, .ref (b 39)), (1, .int t), (2, .int co)] := hl
  refine lv_iload_n hx hb dX10_bars_0 rfl (lv_at hl 1 rfl) ?_
  refine rdS (As := [.int t]) (rest := []) ⟨hx, hb, hml, hown, hts⟩ (k_X10_isThing l dC dI cI cZ cQ t) (va_cwS 1 hts gX10_bars_X10_isThing rfl rfl rfl (by decide +kernel) ⟨Nat.le_of_ble_eq_true rfl, Nat.le_of_ble_eq_true rfl⟩) hP hK hN [] rfl rfl hl.1 rfl (Nat.le_of_ble_eq_true rfl) dX10_bars_1 ⟨Nat.le_of_ble_eq_true rfl, Nat.le_of_ble_eq_true rfl⟩ (fun r1 h2 => ?_)
  have h2 : ((((r1 = 1) ∧ (0 ≤ t.toInt) ∧ (t.toInt ≤ 23)) ∨ ((r1 = 0) ∧ (t.toInt < 0 ∨ 23 < t.toInt)))) := h2
  rcases h2 with (⟨rfl, h2_a0, h2_a1⟩ | ⟨rfl, h2_a0⟩)
  · refine lv_if_eq (tgt := 14) hx hb dX10_bars_4 (by decide) (fun c9 => absurd c9 (by decide)) (fun _ => ?_)
    refine lv_iload_n hx hb dX10_bars_7 rfl (lv_at hl 2 rfl) ?_
    refine rdS (As := [.int co]) (rest := []) ⟨hx, hb, hml, hown, hts⟩ (k_X10_isCorner l dC dI cI cZ cQ co) (va_cwS 1 hts gX10_bars_X10_isCorner rfl rfl rfl (by decide +kernel) ⟨Nat.le_of_ble_eq_true rfl, Nat.le_of_ble_eq_true rfl⟩) hP hK hN [] rfl rfl hl.1 rfl (Nat.le_of_ble_eq_true rfl) dX10_bars_8 ⟨Nat.le_of_ble_eq_true rfl, Nat.le_of_ble_eq_true rfl⟩ (fun r3 h4 => ?_)
    have h4 : ((((r3 = 1) ∧ (0 ≤ co.toInt) ∧ (co.toInt ≤ 47)) ∨ ((r3 = 0) ∧ (co.toInt < 0 ∨ 47 < co.toInt)))) := h4
    rcases h4 with (⟨rfl, h4_a0, h4_a1⟩ | ⟨rfl, h4_a0⟩)
    · refine lv_if_ne (tgt := 17) hx hb dX10_bars_11 (by decide) (fun _ => ?_) (fun c9 => absurd c9 (by decide))
      have L45 : ∀ (y45_3 : Int32) (ls : Array Slot), lv_has ls 6 [(0, .ref (b 39)), (1, .int t), (2, .int co), (3, .int y45_3)] → W p l e (headSpec wsX10_bars { frames := 2, cells := 0, slots := 0, locals := 48 }).room s m ([.ref (b 39), .int t, .int co] : List Value).toArray below meth c s.heap [] 0 0 (MQ below (QR (fun r : Int32 => True)) ([.ref (b 39), .int t, .int co] : List Value).toArray s 0 0 (fun _ => False)) (F0 m 45 ls []) := by
        intro y45_3 ls  hl
        have L94 : ∀ (y94_3 : Int32) (y94_4 : Int32) (ls : Array Slot), lv_has ls 6 [(0, .ref (b 39)), (1, .int t), (2, .int co), (3, .int y94_3), (4, .int y94_4)] → W p l e (headSpec wsX10_bars { frames := 2, cells := 0, slots := 0, locals := 48 }).room s m ([.ref (b 39), .int t, .int co] : List Value).toArray below meth c s.heap [] 0 0 (MQ below (QR (fun r : Int32 => True)) ([.ref (b 39), .int t, .int co] : List Value).toArray s 0 0 (fun _ => False)) (F0 m 94 ls []) := by
          intro y94_3 y94_4 ls  hl
          have L142 : ∀ (y142_5 : Int32) (ls : Array Slot), lv_has ls 6 [(3, .int y94_3), (5, .int y142_5)] → W p l e (headSpec wsX10_bars { frames := 2, cells := 0, slots := 0, locals := 48 }).room s m ([.ref (b 39), .int t, .int co] : List Value).toArray below meth c s.heap [] 0 0 (MQ below (QR (fun r : Int32 => True)) ([.ref (b 39), .int t, .int co] : List Value).toArray s 0 0 (fun _ => False)) (F0 m 142 ls []) := by
            intro y142_5 ls  hl
            refine lv_iload_n hx hb dX10_bars_142 rfl (lv_at hl 0 rfl) ?_
            refine lv_iload hx hb dX10_bars_143 (lv_at hl 1 rfl) ?_
            refine lv_if_eq (tgt := 152) hx hb dX10_bars_145 (by decide) (fun c5 => ?_) (fun c5 => ?_)
            · have dc5 : y142_5.toInt = 0 := eqC rfl (show (0 : Int32).toInt = 0 from rfl) c5
              refine lv_iconst (v := 0) hx hb dX10_bars_152 (by decide) ?_
              refine lv_iadd hx hb dX10_bars_153 ?_
              exact W.iret (v := y94_3 + 0) hx hb hr (fun tq ht hW => ⟨y94_3 + 0, rfl, trivial, ht⟩) (fun q h => by cases h) dX10_bars_154
            · have dc5 : y142_5.toInt ≠ 0 := neC rfl (show (0 : Int32).toInt = 0 from rfl) c5
              refine lv_iconst (v := 4) hx hb dX10_bars_148 (by decide) ?_
              refine lv_goto (tgt := 153) hx hb dX10_bars_149 (by decide) ?_
              refine lv_iadd hx hb dX10_bars_153 ?_
              exact W.iret (v := y94_3 + 4) hx hb hr (fun tq ht hW => ⟨y94_3 + 4, rfl, trivial, ht⟩) (fun q h => by cases h) dX10_bars_154
          refine lv_iload_n hx hb dX10_bars_94 rfl (lv_at hl 2 rfl) ?_
          refine lv_bipush (v := 6) hx hb dX10_bars_95 (by decide) ?_
          refine lv_irem hx hb dX10_bars_97 (by decide) ?_
          have f6 : (co - co / 6 * 6).toInt = (co.toInt) % (6) := remC rfl (show (6 : Int32).toInt = 6 from rfl) (by omega) (by omega)
          refine lv_if_le (tgt := 114) hx hb dX10_bars_98 (by decide) (fun c7 => ?_) (fun c7 => ?_)
          · have dc7 : (co.toInt) % (6) ≤ 0 := leC f6 (show (0 : Int32).toInt = 0 from rfl) c7
            refine lv_iload_n hx hb dX10_bars_114 rfl (lv_at hl 2 rfl) ?_
            refine lv_bipush (v := 6) hx hb dX10_bars_115 (by decide) ?_
            refine lv_irem hx hb dX10_bars_117 (by decide) ?_
            have f8 : (co - co / 6 * 6).toInt = (co.toInt) % (6) := remC rfl (show (6 : Int32).toInt = 6 from rfl) (by omega) (by omega)
            refine lv_iconst (v := 5) hx hb dX10_bars_118 (by decide) ?_
            refine lv_icmp_ge (tgt := 139) hx hb dX10_bars_119 (by decide) (fun c9 => ?_) (fun c9 => ?_)
            · have dc9 : 5 ≤ (co.toInt) % (6) := leC (show (5 : Int32).toInt = 5 from rfl) f8 c9
              refine lv_iconst (v := 0) hx hb dX10_bars_139 (by decide) ?_
              refine lv_istore (lv' := [(5, .int 0), (0, .ref (b 39)), (1, .int t), (2, .int co), (3, .int y94_3), (4, .int y94_4)]) hx hb dX10_bars_140 hl (by decide) rfl (fun ls hl => ?_)
              have kc10 : (0 : Int32).toInt = 0 := rfl
              exact L142 0 _  (lv_sub hl [4, 0] rfl)
            · have dc9 : (co.toInt) % (6) < 5 := nleC (show (5 : Int32).toInt = 5 from rfl) f8 c9
              refine lv_aload_n hx hb dX10_bars_122 rfl (lv_at hl 0 rfl) ?_
              refine lv_iload_n hx hb dX10_bars_123 rfl (lv_at hl 1 rfl) ?_
              refine lv_iload_n hx hb dX10_bars_124 rfl (lv_at hl 2 rfl) ?_
              refine lv_iconst (v := 1) hx hb dX10_bars_125 (by decide) ?_
              refine lv_iadd hx hb dX10_bars_126 ?_
              have f11 : (co + 1).toInt = (co.toInt) + (1) := addC rfl (show (1 : Int32).toInt = 1 from rfl) (by omega) (by omega)
              refine lv_iload hx hb dX10_bars_127 (lv_at hl 4 rfl) ?_
              refine rdV (As := [.int t, .int (co + 1), .int y94_4]) (rest := []) ⟨hx, hb, hml, hown, hts⟩ (k_X10_isTooLike l dC dI cI cZ cQ b mday mdoo mdA mdB mfar mmar mtel mgai mfal mtop mstr mgho mfai mpto mwal mahd mahf mcho mbes mbyt mtxt mpos mtka mtok mdig mnum mfau mrdm mrea mlin mlne mthg mord mbor mbsm mans mand manr mali t (co + 1) y94_4 r_mday r_mdoo r_mdA r_mdB r_mmar r_mgai r_mfal r_mtop r_mstr r_mgho r_mfai r_mahd r_mahf r_mcho r_mbyt r_mpos r_mrdm r_mlin r_mthg r_mord r_mans (by omega) (by omega) (by omega) (by omega)) (cwV 3 hts gX10_bars_X10_isTooLike rfl rfl rfl (by decide +kernel) ⟨Nat.le_of_ble_eq_true rfl, Nat.le_of_ble_eq_true rfl⟩) hP hK hN [0, 1, 2, 3, 4, 5, 6, 7, 8, 9, 10, 11, 12, 13, 14, 15, 16, 17, 18, 19, 20, 21, 22, 23, 24, 25] rfl 0 10 rfl rfl rfl hl.1 rfl (Nat.le_of_ble_eq_true rfl) dX10_bars_129 ⟨Nat.le_of_ble_eq_true rfl, Nat.le_of_ble_eq_true rfl⟩ (fun r12 h13 => ?_)
              have h13 : ((((r12 = 1)) ∨ ((r12 = 0)))) := h13
              rcases h13 with (rfl | rfl)
              · refine lv_if_eq (tgt := 139) hx hb dX10_bars_132 (by decide) (fun c9 => absurd c9 (by decide)) (fun _ => ?_)
                refine lv_iconst (v := 1) hx hb dX10_bars_135 (by decide) ?_
                refine lv_goto (tgt := 140) hx hb dX10_bars_136 (by decide) ?_
                refine lv_istore (lv' := [(5, .int 1), (0, .ref (b 39)), (1, .int t), (2, .int co), (3, .int y94_3), (4, .int y94_4)]) hx hb dX10_bars_140 hl (by decide) rfl (fun ls hl => ?_)
                have kc14 : (1 : Int32).toInt = 1 := rfl
                exact L142 1 _  (lv_sub hl [4, 0] rfl)
              · refine lv_if_eq (tgt := 139) hx hb dX10_bars_132 (by decide) (fun _ => ?_) (fun c9 => absurd (by decide) c9)
                refine lv_iconst (v := 0) hx hb dX10_bars_139 (by decide) ?_
                refine lv_istore (lv' := [(5, .int 0), (0, .ref (b 39)), (1, .int t), (2, .int co), (3, .int y94_3), (4, .int y94_4)]) hx hb dX10_bars_140 hl (by decide) rfl (fun ls hl => ?_)
                have kc15 : (0 : Int32).toInt = 0 := rfl
                exact L142 0 _  (lv_sub hl [4, 0] rfl)
          · have dc7 : 0 < (co.toInt) % (6) := nleC f6 (show (0 : Int32).toInt = 0 from rfl) c7
            refine lv_aload_n hx hb dX10_bars_101 rfl (lv_at hl 0 rfl) ?_
            refine lv_iload_n hx hb dX10_bars_102 rfl (lv_at hl 1 rfl) ?_
            refine lv_iload_n hx hb dX10_bars_103 rfl (lv_at hl 2 rfl) ?_
            refine lv_iconst (v := 1) hx hb dX10_bars_104 (by decide) ?_
            refine lv_isub hx hb dX10_bars_105 ?_
            have f16 : (co - 1).toInt = (co.toInt) - (1) := subC rfl (show (1 : Int32).toInt = 1 from rfl) (by omega) (by omega)
            refine lv_iload hx hb dX10_bars_106 (lv_at hl 4 rfl) ?_
            refine rdV (As := [.int t, .int (co - 1), .int y94_4]) (rest := []) ⟨hx, hb, hml, hown, hts⟩ (k_X10_isTooLike l dC dI cI cZ cQ b mday mdoo mdA mdB mfar mmar mtel mgai mfal mtop mstr mgho mfai mpto mwal mahd mahf mcho mbes mbyt mtxt mpos mtka mtok mdig mnum mfau mrdm mrea mlin mlne mthg mord mbor mbsm mans mand manr mali t (co - 1) y94_4 r_mday r_mdoo r_mdA r_mdB r_mmar r_mgai r_mfal r_mtop r_mstr r_mgho r_mfai r_mahd r_mahf r_mcho r_mbyt r_mpos r_mrdm r_mlin r_mthg r_mord r_mans (by omega) (by omega) (by omega) (by omega)) (cwV 3 hts gX10_bars_X10_isTooLike rfl rfl rfl (by decide +kernel) ⟨Nat.le_of_ble_eq_true rfl, Nat.le_of_ble_eq_true rfl⟩) hP hK hN [0, 1, 2, 3, 4, 5, 6, 7, 8, 9, 10, 11, 12, 13, 14, 15, 16, 17, 18, 19, 20, 21, 22, 23, 24, 25] rfl 0 10 rfl rfl rfl hl.1 rfl (Nat.le_of_ble_eq_true rfl) dX10_bars_108 ⟨Nat.le_of_ble_eq_true rfl, Nat.le_of_ble_eq_true rfl⟩ (fun r17 h18 => ?_)
            have h18 : ((((r17 = 1)) ∨ ((r17 = 0)))) := h18
            rcases h18 with (rfl | rfl)
            · refine lv_if_ne (tgt := 135) hx hb dX10_bars_111 (by decide) (fun _ => ?_) (fun c9 => absurd c9 (by decide))
              refine lv_iconst (v := 1) hx hb dX10_bars_135 (by decide) ?_
              refine lv_goto (tgt := 140) hx hb dX10_bars_136 (by decide) ?_
              refine lv_istore (lv' := [(5, .int 1), (0, .ref (b 39)), (1, .int t), (2, .int co), (3, .int y94_3), (4, .int y94_4)]) hx hb dX10_bars_140 hl (by decide) rfl (fun ls hl => ?_)
              have kc19 : (1 : Int32).toInt = 1 := rfl
              exact L142 1 _  (lv_sub hl [4, 0] rfl)
            · refine lv_if_ne (tgt := 135) hx hb dX10_bars_111 (by decide) (fun c9 => absurd (by decide) c9) (fun _ => ?_)
              refine lv_iload_n hx hb dX10_bars_114 rfl (lv_at hl 2 rfl) ?_
              refine lv_bipush (v := 6) hx hb dX10_bars_115 (by decide) ?_
              refine lv_irem hx hb dX10_bars_117 (by decide) ?_
              have f20 : (co - co / 6 * 6).toInt = (co.toInt) % (6) := remC rfl (show (6 : Int32).toInt = 6 from rfl) (by omega) (by omega)
              refine lv_iconst (v := 5) hx hb dX10_bars_118 (by decide) ?_
              refine lv_icmp_ge (tgt := 139) hx hb dX10_bars_119 (by decide) (fun c21 => ?_) (fun c21 => ?_)
              · have dc21 : 5 ≤ (co.toInt) % (6) := leC (show (5 : Int32).toInt = 5 from rfl) f20 c21
                refine lv_iconst (v := 0) hx hb dX10_bars_139 (by decide) ?_
                refine lv_istore (lv' := [(5, .int 0), (0, .ref (b 39)), (1, .int t), (2, .int co), (3, .int y94_3), (4, .int y94_4)]) hx hb dX10_bars_140 hl (by decide) rfl (fun ls hl => ?_)
                have kc22 : (0 : Int32).toInt = 0 := rfl
                exact L142 0 _  (lv_sub hl [4, 0] rfl)
              · have dc21 : (co.toInt) % (6) < 5 := nleC (show (5 : Int32).toInt = 5 from rfl) f20 c21
                refine lv_aload_n hx hb dX10_bars_122 rfl (lv_at hl 0 rfl) ?_
                refine lv_iload_n hx hb dX10_bars_123 rfl (lv_at hl 1 rfl) ?_
                refine lv_iload_n hx hb dX10_bars_124 rfl (lv_at hl 2 rfl) ?_
                refine lv_iconst (v := 1) hx hb dX10_bars_125 (by decide) ?_
                refine lv_iadd hx hb dX10_bars_126 ?_
                have f23 : (co + 1).toInt = (co.toInt) + (1) := addC rfl (show (1 : Int32).toInt = 1 from rfl) (by omega) (by omega)
                refine lv_iload hx hb dX10_bars_127 (lv_at hl 4 rfl) ?_
                refine rdV (As := [.int t, .int (co + 1), .int y94_4]) (rest := []) ⟨hx, hb, hml, hown, hts⟩ (k_X10_isTooLike l dC dI cI cZ cQ b mday mdoo mdA mdB mfar mmar mtel mgai mfal mtop mstr mgho mfai mpto mwal mahd mahf mcho mbes mbyt mtxt mpos mtka mtok mdig mnum mfau mrdm mrea mlin mlne mthg mord mbor mbsm mans mand manr mali t (co + 1) y94_4 r_mday r_mdoo r_mdA r_mdB r_mmar r_mgai r_mfal r_mtop r_mstr r_mgho r_mfai r_mahd r_mahf r_mcho r_mbyt r_mpos r_mrdm r_mlin r_mthg r_mord r_mans (by omega) (by omega) (by omega) (by omega)) (cwV 3 hts gX10_bars_X10_isTooLike rfl rfl rfl (by decide +kernel) ⟨Nat.le_of_ble_eq_true rfl, Nat.le_of_ble_eq_true rfl⟩) hP hK hN [0, 1, 2, 3, 4, 5, 6, 7, 8, 9, 10, 11, 12, 13, 14, 15, 16, 17, 18, 19, 20, 21, 22, 23, 24, 25] rfl 0 10 rfl rfl rfl hl.1 rfl (Nat.le_of_ble_eq_true rfl) dX10_bars_129 ⟨Nat.le_of_ble_eq_true rfl, Nat.le_of_ble_eq_true rfl⟩ (fun r24 h25 => ?_)
                have h25 : ((((r24 = 1)) ∨ ((r24 = 0)))) := h25
                rcases h25 with (rfl | rfl)
                · refine lv_if_eq (tgt := 139) hx hb dX10_bars_132 (by decide) (fun c9 => absurd c9 (by decide)) (fun _ => ?_)
                  refine lv_iconst (v := 1) hx hb dX10_bars_135 (by decide) ?_
                  refine lv_goto (tgt := 140) hx hb dX10_bars_136 (by decide) ?_
                  refine lv_istore (lv' := [(5, .int 1), (0, .ref (b 39)), (1, .int t), (2, .int co), (3, .int y94_3), (4, .int y94_4)]) hx hb dX10_bars_140 hl (by decide) rfl (fun ls hl => ?_)
                  have kc26 : (1 : Int32).toInt = 1 := rfl
                  exact L142 1 _  (lv_sub hl [4, 0] rfl)
                · refine lv_if_eq (tgt := 139) hx hb dX10_bars_132 (by decide) (fun _ => ?_) (fun c9 => absurd (by decide) c9)
                  refine lv_iconst (v := 0) hx hb dX10_bars_139 (by decide) ?_
                  refine lv_istore (lv' := [(5, .int 0), (0, .ref (b 39)), (1, .int t), (2, .int co), (3, .int y94_3), (4, .int y94_4)]) hx hb dX10_bars_140 hl (by decide) rfl (fun ls hl => ?_)
                  have kc27 : (0 : Int32).toInt = 0 := rfl
                  exact L142 0 _  (lv_sub hl [4, 0] rfl)
        refine lv_aload_n hx hb dX10_bars_45 rfl (lv_at hl 0 rfl) ?_
        refine lv_iconst (v := 2) hx hb dX10_bars_46 (by decide) ?_
        refine lv_iconst (v := 0) hx hb dX10_bars_47 (by decide) ?_
        refine lv_bipush (v := 100) hx hb dX10_bars_48 (by decide) ?_
        refine rdV (As := [.int 2, .int 0, .int 100]) (rest := []) ⟨hx, hb, hml, hown, hts⟩ (k_X10_lastOf l dC dI cI cZ cQ b mday mdoo mdA mdB mfar mmar mtel mgai mfal mtop mstr mgho mfai mpto mwal mahd mahf mcho mbes mbyt mtxt mpos mtka mtok mdig mnum mfau mrdm mrea mlin mlne mthg mord mbor mbsm mans mand manr mali (2 : Int32) (0 : Int32) (100 : Int32) r_mday r_mdoo r_mdA r_mdB r_mmar r_mgai r_mfal r_mtop r_mstr r_mgho r_mfai r_mahd r_mahf r_mcho r_mbyt r_mpos r_mrdm r_mlin r_mthg r_mord r_mans) (cwV 3 hts gX10_bars_X10_lastOf rfl rfl rfl (by decide +kernel) ⟨Nat.le_of_ble_eq_true rfl, Nat.le_of_ble_eq_true rfl⟩) hP hK hN [0, 1, 2, 3, 4, 5, 6, 7, 8, 9, 10, 11, 12, 13, 14, 15, 16, 17, 18, 19, 20, 21, 22, 23, 24, 25] rfl 0 10 rfl rfl rfl hl.1 rfl (Nat.le_of_ble_eq_true rfl) dX10_bars_50 ⟨Nat.le_of_ble_eq_true rfl, Nat.le_of_ble_eq_true rfl⟩ (fun r28 h29 => ?_)
        have h29 : True := h29
        refine lv_istore (lv' := [(4, .int r28), (0, .ref (b 39)), (1, .int t), (2, .int co), (3, .int y45_3)]) hx hb dX10_bars_53 hl (by decide) rfl (fun ls hl => ?_)
        refine lv_iload_n hx hb dX10_bars_55 rfl (lv_at hl 4 rfl) ?_
        refine lv_aload_n hx hb dX10_bars_56 rfl (lv_at hl 1 rfl) ?_
        refine va_get (D := (dC, dI)) (ci := 10) (v := .ref (b 13)) (C := RX10) (T := TX10) (N := 39) hx hb hts inX10 hown hK hP 0 rfl rfl 13 (by decide) lf44 (fun _ h9 => h9) rfl dX10_bars_57 ?_
        refine lv_iload_n hx hb dX10_bars_60 rfl (lv_at hl 3 rfl) ?_
        have b30 : vp_in co 48 := inC rfl (by omega) (by omega)
        refine va_iald hx hb hK hP 10 0 rfl rfl b30 dX10_bars_61 ?_
        refine lv_iconst (v := (-1)) hx hb dX10_bars_62 (by decide) ?_
        refine lv_icmp_eq (tgt := 91) hx hb dX10_bars_63 (by decide) (fun c31 => ?_) (fun c31 => ?_)
        · have dc31 : (mpto co.toNatClampNeg).toInt = (-1) := eqC rfl (show ((-1) : Int32).toInt = (-1) from rfl) c31
          refine lv_iconst (v := 0) hx hb dX10_bars_91 (by decide) ?_
          refine lv_iadd hx hb dX10_bars_92 ?_
          refine lv_topi (fun x32 ex32 => ?_)
          have ix32 : x32.toInt = (y45_3 + 0).toInt := by rw [ex32]
          refine lv_istore_n (lv' := [(3, .int x32), (4, .int r28), (0, .ref (b 39)), (1, .int t), (2, .int co)]) hx hb dX10_bars_93 rfl hl (by decide) rfl (fun ls hl => ?_)
          have L142 : ∀ (y142_5 : Int32) (ls : Array Slot), lv_has ls 6 [(3, .int x32), (5, .int y142_5)] → W p l e (headSpec wsX10_bars { frames := 2, cells := 0, slots := 0, locals := 48 }).room s m ([.ref (b 39), .int t, .int co] : List Value).toArray below meth c s.heap [] 0 0 (MQ below (QR (fun r : Int32 => True)) ([.ref (b 39), .int t, .int co] : List Value).toArray s 0 0 (fun _ => False)) (F0 m 142 ls []) := by
            intro y142_5 ls  hl
            refine lv_iload_n hx hb dX10_bars_142 rfl (lv_at hl 0 rfl) ?_
            refine lv_iload hx hb dX10_bars_143 (lv_at hl 1 rfl) ?_
            refine lv_if_eq (tgt := 152) hx hb dX10_bars_145 (by decide) (fun c33 => ?_) (fun c33 => ?_)
            · have dc33 : y142_5.toInt = 0 := eqC rfl (show (0 : Int32).toInt = 0 from rfl) c33
              refine lv_iconst (v := 0) hx hb dX10_bars_152 (by decide) ?_
              refine lv_iadd hx hb dX10_bars_153 ?_
              exact W.iret (v := x32 + 0) hx hb hr (fun tq ht hW => ⟨x32 + 0, rfl, trivial, ht⟩) (fun q h => by cases h) dX10_bars_154
            · have dc33 : y142_5.toInt ≠ 0 := neC rfl (show (0 : Int32).toInt = 0 from rfl) c33
              refine lv_iconst (v := 4) hx hb dX10_bars_148 (by decide) ?_
              refine lv_goto (tgt := 153) hx hb dX10_bars_149 (by decide) ?_
              refine lv_iadd hx hb dX10_bars_153 ?_
              exact W.iret (v := x32 + 4) hx hb hr (fun tq ht hW => ⟨x32 + 4, rfl, trivial, ht⟩) (fun q h => by cases h) dX10_bars_154
          exact L94 x32 r28 _  (lv_sub hl [2, 3, 4, 0, 1] rfl)
        · have dc31 : (mpto co.toNatClampNeg).toInt ≠ (-1) := neC rfl (show ((-1) : Int32).toInt = (-1) from rfl) c31
          refine lv_aload_n hx hb dX10_bars_66 rfl (lv_at hl 1 rfl) ?_
          refine va_get (D := (dC, dI)) (ci := 10) (v := .int mday) (C := RX10) (T := TX10) (N := 39) hx hb hts inX10 hown hK hP 0 rfl rfl 0 (by decide) lf125 (fun _ h9 => h9) rfl dX10_bars_67 ?_
          refine lv_aload_n hx hb dX10_bars_70 rfl (lv_at hl 1 rfl) ?_
          refine va_get (D := (dC, dI)) (ci := 10) (v := .ref (b 13)) (C := RX10) (T := TX10) (N := 39) hx hb hts inX10 hown hK hP 0 rfl rfl 13 (by decide) lf44 (fun _ h9 => h9) rfl dX10_bars_71 ?_
          refine lv_iload_n hx hb dX10_bars_74 rfl (lv_at hl 3 rfl) ?_
          have b34 : vp_in co 48 := inC rfl (by omega) (by omega)
          refine va_iald hx hb hK hP 10 0 rfl rfl b34 dX10_bars_75 ?_
          refine lv_isub hx hb dX10_bars_76 ?_
          refine lv_aload_n hx hb dX10_bars_77 rfl (lv_at hl 1 rfl) ?_
          refine lv_iconst (v := 1) hx hb dX10_bars_78 (by decide) ?_
          refine lv_iconst (v := 0) hx hb dX10_bars_79 (by decide) ?_
          refine lv_iconst (v := 0) hx hb dX10_bars_80 (by decide) ?_
          refine rdV (As := [.int 1, .int 0, .int 0]) (rest := [.int (mday - (mpto co.toNatClampNeg)), .int y45_3]) ⟨hx, hb, hml, hown, hts⟩ (k_X10_lastOf l dC dI cI cZ cQ b mday mdoo mdA mdB mfar mmar mtel mgai mfal mtop mstr mgho mfai mpto mwal mahd mahf mcho mbes mbyt mtxt mpos mtka mtok mdig mnum mfau mrdm mrea mlin mlne mthg mord mbor mbsm mans mand manr mali (1 : Int32) (0 : Int32) (0 : Int32) r_mday r_mdoo r_mdA r_mdB r_mmar r_mgai r_mfal r_mtop r_mstr r_mgho r_mfai r_mahd r_mahf r_mcho r_mbyt r_mpos r_mrdm r_mlin r_mthg r_mord r_mans) (cwV 3 hts gX10_bars_X10_lastOf rfl rfl rfl (by decide +kernel) ⟨Nat.le_of_ble_eq_true rfl, Nat.le_of_ble_eq_true rfl⟩) hP hK hN [0, 1, 2, 3, 4, 5, 6, 7, 8, 9, 10, 11, 12, 13, 14, 15, 16, 17, 18, 19, 20, 21, 22, 23, 24, 25] rfl 0 10 rfl rfl rfl hl.1 rfl (Nat.le_of_ble_eq_true rfl) dX10_bars_81 ⟨Nat.le_of_ble_eq_true rfl, Nat.le_of_ble_eq_true rfl⟩ (fun r35 h36 => ?_)
          have h36 : True := h36
          refine lv_icmp_ge (tgt := 91) hx hb dX10_bars_84 (by decide) (fun c37 => ?_) (fun c37 => ?_)
          · have dc37 : r35.toInt ≤ (mday - (mpto co.toNatClampNeg)).toInt := leC rfl rfl c37
            refine lv_iconst (v := 0) hx hb dX10_bars_91 (by decide) ?_
            refine lv_iadd hx hb dX10_bars_92 ?_
            refine lv_topi (fun x38 ex38 => ?_)
            have ix38 : x38.toInt = (y45_3 + 0).toInt := by rw [ex38]
            refine lv_istore_n (lv' := [(3, .int x38), (4, .int r28), (0, .ref (b 39)), (1, .int t), (2, .int co)]) hx hb dX10_bars_93 rfl hl (by decide) rfl (fun ls hl => ?_)
            have L142 : ∀ (y142_5 : Int32) (ls : Array Slot), lv_has ls 6 [(3, .int x38), (5, .int y142_5)] → W p l e (headSpec wsX10_bars { frames := 2, cells := 0, slots := 0, locals := 48 }).room s m ([.ref (b 39), .int t, .int co] : List Value).toArray below meth c s.heap [] 0 0 (MQ below (QR (fun r : Int32 => True)) ([.ref (b 39), .int t, .int co] : List Value).toArray s 0 0 (fun _ => False)) (F0 m 142 ls []) := by
              intro y142_5 ls  hl
              refine lv_iload_n hx hb dX10_bars_142 rfl (lv_at hl 0 rfl) ?_
              refine lv_iload hx hb dX10_bars_143 (lv_at hl 1 rfl) ?_
              refine lv_if_eq (tgt := 152) hx hb dX10_bars_145 (by decide) (fun c39 => ?_) (fun c39 => ?_)
              · have dc39 : y142_5.toInt = 0 := eqC rfl (show (0 : Int32).toInt = 0 from rfl) c39
                refine lv_iconst (v := 0) hx hb dX10_bars_152 (by decide) ?_
                refine lv_iadd hx hb dX10_bars_153 ?_
                exact W.iret (v := x38 + 0) hx hb hr (fun tq ht hW => ⟨x38 + 0, rfl, trivial, ht⟩) (fun q h => by cases h) dX10_bars_154
              · have dc39 : y142_5.toInt ≠ 0 := neC rfl (show (0 : Int32).toInt = 0 from rfl) c39
                refine lv_iconst (v := 4) hx hb dX10_bars_148 (by decide) ?_
                refine lv_goto (tgt := 153) hx hb dX10_bars_149 (by decide) ?_
                refine lv_iadd hx hb dX10_bars_153 ?_
                exact W.iret (v := x38 + 4) hx hb hr (fun tq ht hW => ⟨x38 + 4, rfl, trivial, ht⟩) (fun q h => by cases h) dX10_bars_154
            exact L94 x38 r28 _  (lv_sub hl [2, 3, 4, 0, 1] rfl)
          · have dc37 : (mday - (mpto co.toNatClampNeg)).toInt < r35.toInt := nleC rfl rfl c37
            refine lv_iconst (v := 2) hx hb dX10_bars_87 (by decide) ?_
            refine lv_goto (tgt := 92) hx hb dX10_bars_88 (by decide) ?_
            refine lv_iadd hx hb dX10_bars_92 ?_
            refine lv_topi (fun x40 ex40 => ?_)
            have ix40 : x40.toInt = (y45_3 + 2).toInt := by rw [ex40]
            refine lv_istore_n (lv' := [(3, .int x40), (4, .int r28), (0, .ref (b 39)), (1, .int t), (2, .int co)]) hx hb dX10_bars_93 rfl hl (by decide) rfl (fun ls hl => ?_)
            have L142 : ∀ (y142_5 : Int32) (ls : Array Slot), lv_has ls 6 [(3, .int x40), (5, .int y142_5)] → W p l e (headSpec wsX10_bars { frames := 2, cells := 0, slots := 0, locals := 48 }).room s m ([.ref (b 39), .int t, .int co] : List Value).toArray below meth c s.heap [] 0 0 (MQ below (QR (fun r : Int32 => True)) ([.ref (b 39), .int t, .int co] : List Value).toArray s 0 0 (fun _ => False)) (F0 m 142 ls []) := by
              intro y142_5 ls  hl
              refine lv_iload_n hx hb dX10_bars_142 rfl (lv_at hl 0 rfl) ?_
              refine lv_iload hx hb dX10_bars_143 (lv_at hl 1 rfl) ?_
              refine lv_if_eq (tgt := 152) hx hb dX10_bars_145 (by decide) (fun c41 => ?_) (fun c41 => ?_)
              · have dc41 : y142_5.toInt = 0 := eqC rfl (show (0 : Int32).toInt = 0 from rfl) c41
                refine lv_iconst (v := 0) hx hb dX10_bars_152 (by decide) ?_
                refine lv_iadd hx hb dX10_bars_153 ?_
                exact W.iret (v := x40 + 0) hx hb hr (fun tq ht hW => ⟨x40 + 0, rfl, trivial, ht⟩) (fun q h => by cases h) dX10_bars_154
              · have dc41 : y142_5.toInt ≠ 0 := neC rfl (show (0 : Int32).toInt = 0 from rfl) c41
                refine lv_iconst (v := 4) hx hb dX10_bars_148 (by decide) ?_
                refine lv_goto (tgt := 153) hx hb dX10_bars_149 (by decide) ?_
                refine lv_iadd hx hb dX10_bars_153 ?_
                exact W.iret (v := x40 + 4) hx hb hr (fun tq ht hW => ⟨x40 + 4, rfl, trivial, ht⟩) (fun q h => by cases h) dX10_bars_154
            exact L94 x40 r28 _  (lv_sub hl [2, 3, 4, 0, 1] rfl)
      refine lv_aload_n hx hb dX10_bars_17 rfl (lv_at hl 0 rfl) ?_
      refine lv_iload_n hx hb dX10_bars_18 rfl (lv_at hl 2 rfl) ?_
      refine lv_bipush (v := 6) hx hb dX10_bars_19 (by decide) ?_
      refine lv_idiv hx hb dX10_bars_21 (by decide) ?_
      have f42 : (co / 6).toInt = (co.toInt) / (6) := divC rfl (show (6 : Int32).toInt = 6 from rfl) (by omega) (by omega)
      refine rdV (As := [.int (co / 6)]) (rest := []) ⟨hx, hb, hml, hown, hts⟩ (k_X10_standIn l dC dI cI cZ cQ b mday mdoo mdA mdB mfar mmar mtel mgai mfal mtop mstr mgho mfai mpto mwal mahd mahf mcho mbes mbyt mtxt mpos mtka mtok mdig mnum mfau mrdm mrea mlin mlne mthg mord mbor mbsm mans mand manr mali (co / 6) r_mday r_mdoo r_mdA r_mdB r_mmar r_mgai r_mfal r_mtop r_mstr r_mgho r_mfai r_mahd r_mahf r_mcho r_mbyt r_mpos r_mrdm r_mlin r_mthg r_mord r_mans (by omega) (by omega)) (cwV 1 hts gX10_bars_X10_standIn rfl rfl rfl (by decide +kernel) ⟨Nat.le_of_ble_eq_true rfl, Nat.le_of_ble_eq_true rfl⟩) hP hK hN [0, 1, 2, 3, 4, 5, 6, 7, 8, 9, 10, 11, 12, 13, 14, 15, 16, 17, 18, 19, 20, 21, 22, 23, 24, 25] rfl 0 10 rfl rfl rfl hl.1 rfl (Nat.le_of_ble_eq_true rfl) dX10_bars_22 ⟨Nat.le_of_ble_eq_true rfl, Nat.le_of_ble_eq_true rfl⟩ (fun r43 h44 => ?_)
      have h44 : True := h44
      refine lv_aload_n hx hb dX10_bars_25 rfl (lv_at hl 0 rfl) ?_
      refine lv_iconst (v := 0) hx hb dX10_bars_26 (by decide) ?_
      refine lv_iload_n hx hb dX10_bars_27 rfl (lv_at hl 2 rfl) ?_
      refine lv_bipush (v := 6) hx hb dX10_bars_28 (by decide) ?_
      refine lv_idiv hx hb dX10_bars_30 (by decide) ?_
      have f45 : (co / 6).toInt = (co.toInt) / (6) := divC rfl (show (6 : Int32).toInt = 6 from rfl) (by omega) (by omega)
      refine lv_bipush (v := 100) hx hb dX10_bars_31 (by decide) ?_
      refine rdV (As := [.int 0, .int (co / 6), .int 100]) (rest := [.int r43]) ⟨hx, hb, hml, hown, hts⟩ (k_X10_lastOf l dC dI cI cZ cQ b mday mdoo mdA mdB mfar mmar mtel mgai mfal mtop mstr mgho mfai mpto mwal mahd mahf mcho mbes mbyt mtxt mpos mtka mtok mdig mnum mfau mrdm mrea mlin mlne mthg mord mbor mbsm mans mand manr mali (0 : Int32) (co / 6) (100 : Int32) r_mday r_mdoo r_mdA r_mdB r_mmar r_mgai r_mfal r_mtop r_mstr r_mgho r_mfai r_mahd r_mahf r_mcho r_mbyt r_mpos r_mrdm r_mlin r_mthg r_mord r_mans) (cwV 3 hts gX10_bars_X10_lastOf rfl rfl rfl (by decide +kernel) ⟨Nat.le_of_ble_eq_true rfl, Nat.le_of_ble_eq_true rfl⟩) hP hK hN [0, 1, 2, 3, 4, 5, 6, 7, 8, 9, 10, 11, 12, 13, 14, 15, 16, 17, 18, 19, 20, 21, 22, 23, 24, 25] rfl 0 10 rfl rfl rfl hl.1 rfl (Nat.le_of_ble_eq_true rfl) dX10_bars_33 ⟨Nat.le_of_ble_eq_true rfl, Nat.le_of_ble_eq_true rfl⟩ (fun r46 h47 => ?_)
      have h47 : True := h47
      refine lv_icmp_lt (tgt := 43) hx hb dX10_bars_36 (by decide) (fun c48 => ?_) (fun c48 => ?_)
      · have dc48 : r43.toInt < r46.toInt := ltC rfl rfl c48
        refine lv_iconst (v := 0) hx hb dX10_bars_43 (by decide) ?_
        refine lv_istore_n (lv' := [(3, .int 0), (0, .ref (b 39)), (1, .int t), (2, .int co)]) hx hb dX10_bars_44 rfl hl (by decide) rfl (fun ls hl => ?_)
        have L94 : ∀ (y94_3 : Int32) (y94_4 : Int32) (ls : Array Slot), lv_has ls 6 [(0, .ref (b 39)), (1, .int t), (2, .int co), (3, .int y94_3), (4, .int y94_4)] → W p l e (headSpec wsX10_bars { frames := 2, cells := 0, slots := 0, locals := 48 }).room s m ([.ref (b 39), .int t, .int co] : List Value).toArray below meth c s.heap [] 0 0 (MQ below (QR (fun r : Int32 => True)) ([.ref (b 39), .int t, .int co] : List Value).toArray s 0 0 (fun _ => False)) (F0 m 94 ls []) := by
          intro y94_3 y94_4 ls  hl
          have L142 : ∀ (y142_5 : Int32) (ls : Array Slot), lv_has ls 6 [(3, .int y94_3), (5, .int y142_5)] → W p l e (headSpec wsX10_bars { frames := 2, cells := 0, slots := 0, locals := 48 }).room s m ([.ref (b 39), .int t, .int co] : List Value).toArray below meth c s.heap [] 0 0 (MQ below (QR (fun r : Int32 => True)) ([.ref (b 39), .int t, .int co] : List Value).toArray s 0 0 (fun _ => False)) (F0 m 142 ls []) := by
            intro y142_5 ls  hl
            refine lv_iload_n hx hb dX10_bars_142 rfl (lv_at hl 0 rfl) ?_
            refine lv_iload hx hb dX10_bars_143 (lv_at hl 1 rfl) ?_
            refine lv_if_eq (tgt := 152) hx hb dX10_bars_145 (by decide) (fun c49 => ?_) (fun c49 => ?_)
            · have dc49 : y142_5.toInt = 0 := eqC rfl (show (0 : Int32).toInt = 0 from rfl) c49
              refine lv_iconst (v := 0) hx hb dX10_bars_152 (by decide) ?_
              refine lv_iadd hx hb dX10_bars_153 ?_
              exact W.iret (v := y94_3 + 0) hx hb hr (fun tq ht hW => ⟨y94_3 + 0, rfl, trivial, ht⟩) (fun q h => by cases h) dX10_bars_154
            · have dc49 : y142_5.toInt ≠ 0 := neC rfl (show (0 : Int32).toInt = 0 from rfl) c49
              refine lv_iconst (v := 4) hx hb dX10_bars_148 (by decide) ?_
              refine lv_goto (tgt := 153) hx hb dX10_bars_149 (by decide) ?_
              refine lv_iadd hx hb dX10_bars_153 ?_
              exact W.iret (v := y94_3 + 4) hx hb hr (fun tq ht hW => ⟨y94_3 + 4, rfl, trivial, ht⟩) (fun q h => by cases h) dX10_bars_154
          refine lv_iload_n hx hb dX10_bars_94 rfl (lv_at hl 2 rfl) ?_
          refine lv_bipush (v := 6) hx hb dX10_bars_95 (by decide) ?_
          refine lv_irem hx hb dX10_bars_97 (by decide) ?_
          have f50 : (co - co / 6 * 6).toInt = (co.toInt) % (6) := remC rfl (show (6 : Int32).toInt = 6 from rfl) (by omega) (by omega)
          refine lv_if_le (tgt := 114) hx hb dX10_bars_98 (by decide) (fun c51 => ?_) (fun c51 => ?_)
          · have dc51 : (co.toInt) % (6) ≤ 0 := leC f50 (show (0 : Int32).toInt = 0 from rfl) c51
            refine lv_iload_n hx hb dX10_bars_114 rfl (lv_at hl 2 rfl) ?_
            refine lv_bipush (v := 6) hx hb dX10_bars_115 (by decide) ?_
            refine lv_irem hx hb dX10_bars_117 (by decide) ?_
            have f52 : (co - co / 6 * 6).toInt = (co.toInt) % (6) := remC rfl (show (6 : Int32).toInt = 6 from rfl) (by omega) (by omega)
            refine lv_iconst (v := 5) hx hb dX10_bars_118 (by decide) ?_
            refine lv_icmp_ge (tgt := 139) hx hb dX10_bars_119 (by decide) (fun c53 => ?_) (fun c53 => ?_)
            · have dc53 : 5 ≤ (co.toInt) % (6) := leC (show (5 : Int32).toInt = 5 from rfl) f52 c53
              refine lv_iconst (v := 0) hx hb dX10_bars_139 (by decide) ?_
              refine lv_istore (lv' := [(5, .int 0), (0, .ref (b 39)), (1, .int t), (2, .int co), (3, .int y94_3), (4, .int y94_4)]) hx hb dX10_bars_140 hl (by decide) rfl (fun ls hl => ?_)
              have kc54 : (0 : Int32).toInt = 0 := rfl
              exact L142 0 _  (lv_sub hl [4, 0] rfl)
            · have dc53 : (co.toInt) % (6) < 5 := nleC (show (5 : Int32).toInt = 5 from rfl) f52 c53
              refine lv_aload_n hx hb dX10_bars_122 rfl (lv_at hl 0 rfl) ?_
              refine lv_iload_n hx hb dX10_bars_123 rfl (lv_at hl 1 rfl) ?_
              refine lv_iload_n hx hb dX10_bars_124 rfl (lv_at hl 2 rfl) ?_
              refine lv_iconst (v := 1) hx hb dX10_bars_125 (by decide) ?_
              refine lv_iadd hx hb dX10_bars_126 ?_
              have f55 : (co + 1).toInt = (co.toInt) + (1) := addC rfl (show (1 : Int32).toInt = 1 from rfl) (by omega) (by omega)
              refine lv_iload hx hb dX10_bars_127 (lv_at hl 4 rfl) ?_
              refine rdV (As := [.int t, .int (co + 1), .int y94_4]) (rest := []) ⟨hx, hb, hml, hown, hts⟩ (k_X10_isTooLike l dC dI cI cZ cQ b mday mdoo mdA mdB mfar mmar mtel mgai mfal mtop mstr mgho mfai mpto mwal mahd mahf mcho mbes mbyt mtxt mpos mtka mtok mdig mnum mfau mrdm mrea mlin mlne mthg mord mbor mbsm mans mand manr mali t (co + 1) y94_4 r_mday r_mdoo r_mdA r_mdB r_mmar r_mgai r_mfal r_mtop r_mstr r_mgho r_mfai r_mahd r_mahf r_mcho r_mbyt r_mpos r_mrdm r_mlin r_mthg r_mord r_mans (by omega) (by omega) (by omega) (by omega)) (cwV 3 hts gX10_bars_X10_isTooLike rfl rfl rfl (by decide +kernel) ⟨Nat.le_of_ble_eq_true rfl, Nat.le_of_ble_eq_true rfl⟩) hP hK hN [0, 1, 2, 3, 4, 5, 6, 7, 8, 9, 10, 11, 12, 13, 14, 15, 16, 17, 18, 19, 20, 21, 22, 23, 24, 25] rfl 0 10 rfl rfl rfl hl.1 rfl (Nat.le_of_ble_eq_true rfl) dX10_bars_129 ⟨Nat.le_of_ble_eq_true rfl, Nat.le_of_ble_eq_true rfl⟩ (fun r56 h57 => ?_)
              have h57 : ((((r56 = 1)) ∨ ((r56 = 0)))) := h57
              rcases h57 with (rfl | rfl)
              · refine lv_if_eq (tgt := 139) hx hb dX10_bars_132 (by decide) (fun c9 => absurd c9 (by decide)) (fun _ => ?_)
                refine lv_iconst (v := 1) hx hb dX10_bars_135 (by decide) ?_
                refine lv_goto (tgt := 140) hx hb dX10_bars_136 (by decide) ?_
                refine lv_istore (lv' := [(5, .int 1), (0, .ref (b 39)), (1, .int t), (2, .int co), (3, .int y94_3), (4, .int y94_4)]) hx hb dX10_bars_140 hl (by decide) rfl (fun ls hl => ?_)
                have kc58 : (1 : Int32).toInt = 1 := rfl
                exact L142 1 _  (lv_sub hl [4, 0] rfl)
              · refine lv_if_eq (tgt := 139) hx hb dX10_bars_132 (by decide) (fun _ => ?_) (fun c9 => absurd (by decide) c9)
                refine lv_iconst (v := 0) hx hb dX10_bars_139 (by decide) ?_
                refine lv_istore (lv' := [(5, .int 0), (0, .ref (b 39)), (1, .int t), (2, .int co), (3, .int y94_3), (4, .int y94_4)]) hx hb dX10_bars_140 hl (by decide) rfl (fun ls hl => ?_)
                have kc59 : (0 : Int32).toInt = 0 := rfl
                exact L142 0 _  (lv_sub hl [4, 0] rfl)
          · have dc51 : 0 < (co.toInt) % (6) := nleC f50 (show (0 : Int32).toInt = 0 from rfl) c51
            refine lv_aload_n hx hb dX10_bars_101 rfl (lv_at hl 0 rfl) ?_
            refine lv_iload_n hx hb dX10_bars_102 rfl (lv_at hl 1 rfl) ?_
            refine lv_iload_n hx hb dX10_bars_103 rfl (lv_at hl 2 rfl) ?_
            refine lv_iconst (v := 1) hx hb dX10_bars_104 (by decide) ?_
            refine lv_isub hx hb dX10_bars_105 ?_
            have f60 : (co - 1).toInt = (co.toInt) - (1) := subC rfl (show (1 : Int32).toInt = 1 from rfl) (by omega) (by omega)
            refine lv_iload hx hb dX10_bars_106 (lv_at hl 4 rfl) ?_
            refine rdV (As := [.int t, .int (co - 1), .int y94_4]) (rest := []) ⟨hx, hb, hml, hown, hts⟩ (k_X10_isTooLike l dC dI cI cZ cQ b mday mdoo mdA mdB mfar mmar mtel mgai mfal mtop mstr mgho mfai mpto mwal mahd mahf mcho mbes mbyt mtxt mpos mtka mtok mdig mnum mfau mrdm mrea mlin mlne mthg mord mbor mbsm mans mand manr mali t (co - 1) y94_4 r_mday r_mdoo r_mdA r_mdB r_mmar r_mgai r_mfal r_mtop r_mstr r_mgho r_mfai r_mahd r_mahf r_mcho r_mbyt r_mpos r_mrdm r_mlin r_mthg r_mord r_mans (by omega) (by omega) (by omega) (by omega)) (cwV 3 hts gX10_bars_X10_isTooLike rfl rfl rfl (by decide +kernel) ⟨Nat.le_of_ble_eq_true rfl, Nat.le_of_ble_eq_true rfl⟩) hP hK hN [0, 1, 2, 3, 4, 5, 6, 7, 8, 9, 10, 11, 12, 13, 14, 15, 16, 17, 18, 19, 20, 21, 22, 23, 24, 25] rfl 0 10 rfl rfl rfl hl.1 rfl (Nat.le_of_ble_eq_true rfl) dX10_bars_108 ⟨Nat.le_of_ble_eq_true rfl, Nat.le_of_ble_eq_true rfl⟩ (fun r61 h62 => ?_)
            have h62 : ((((r61 = 1)) ∨ ((r61 = 0)))) := h62
            rcases h62 with (rfl | rfl)
            · refine lv_if_ne (tgt := 135) hx hb dX10_bars_111 (by decide) (fun _ => ?_) (fun c9 => absurd c9 (by decide))
              refine lv_iconst (v := 1) hx hb dX10_bars_135 (by decide) ?_
              refine lv_goto (tgt := 140) hx hb dX10_bars_136 (by decide) ?_
              refine lv_istore (lv' := [(5, .int 1), (0, .ref (b 39)), (1, .int t), (2, .int co), (3, .int y94_3), (4, .int y94_4)]) hx hb dX10_bars_140 hl (by decide) rfl (fun ls hl => ?_)
              have kc63 : (1 : Int32).toInt = 1 := rfl
              exact L142 1 _  (lv_sub hl [4, 0] rfl)
            · refine lv_if_ne (tgt := 135) hx hb dX10_bars_111 (by decide) (fun c9 => absurd (by decide) c9) (fun _ => ?_)
              refine lv_iload_n hx hb dX10_bars_114 rfl (lv_at hl 2 rfl) ?_
              refine lv_bipush (v := 6) hx hb dX10_bars_115 (by decide) ?_
              refine lv_irem hx hb dX10_bars_117 (by decide) ?_
              have f64 : (co - co / 6 * 6).toInt = (co.toInt) % (6) := remC rfl (show (6 : Int32).toInt = 6 from rfl) (by omega) (by omega)
              refine lv_iconst (v := 5) hx hb dX10_bars_118 (by decide) ?_
              refine lv_icmp_ge (tgt := 139) hx hb dX10_bars_119 (by decide) (fun c65 => ?_) (fun c65 => ?_)
              · have dc65 : 5 ≤ (co.toInt) % (6) := leC (show (5 : Int32).toInt = 5 from rfl) f64 c65
                refine lv_iconst (v := 0) hx hb dX10_bars_139 (by decide) ?_
                refine lv_istore (lv' := [(5, .int 0), (0, .ref (b 39)), (1, .int t), (2, .int co), (3, .int y94_3), (4, .int y94_4)]) hx hb dX10_bars_140 hl (by decide) rfl (fun ls hl => ?_)
                have kc66 : (0 : Int32).toInt = 0 := rfl
                exact L142 0 _  (lv_sub hl [4, 0] rfl)
              · have dc65 : (co.toInt) % (6) < 5 := nleC (show (5 : Int32).toInt = 5 from rfl) f64 c65
                refine lv_aload_n hx hb dX10_bars_122 rfl (lv_at hl 0 rfl) ?_
                refine lv_iload_n hx hb dX10_bars_123 rfl (lv_at hl 1 rfl) ?_
                refine lv_iload_n hx hb dX10_bars_124 rfl (lv_at hl 2 rfl) ?_
                refine lv_iconst (v := 1) hx hb dX10_bars_125 (by decide) ?_
                refine lv_iadd hx hb dX10_bars_126 ?_
                have f67 : (co + 1).toInt = (co.toInt) + (1) := addC rfl (show (1 : Int32).toInt = 1 from rfl) (by omega) (by omega)
                refine lv_iload hx hb dX10_bars_127 (lv_at hl 4 rfl) ?_
                refine rdV (As := [.int t, .int (co + 1), .int y94_4]) (rest := []) ⟨hx, hb, hml, hown, hts⟩ (k_X10_isTooLike l dC dI cI cZ cQ b mday mdoo mdA mdB mfar mmar mtel mgai mfal mtop mstr mgho mfai mpto mwal mahd mahf mcho mbes mbyt mtxt mpos mtka mtok mdig mnum mfau mrdm mrea mlin mlne mthg mord mbor mbsm mans mand manr mali t (co + 1) y94_4 r_mday r_mdoo r_mdA r_mdB r_mmar r_mgai r_mfal r_mtop r_mstr r_mgho r_mfai r_mahd r_mahf r_mcho r_mbyt r_mpos r_mrdm r_mlin r_mthg r_mord r_mans (by omega) (by omega) (by omega) (by omega)) (cwV 3 hts gX10_bars_X10_isTooLike rfl rfl rfl (by decide +kernel) ⟨Nat.le_of_ble_eq_true rfl, Nat.le_of_ble_eq_true rfl⟩) hP hK hN [0, 1, 2, 3, 4, 5, 6, 7, 8, 9, 10, 11, 12, 13, 14, 15, 16, 17, 18, 19, 20, 21, 22, 23, 24, 25] rfl 0 10 rfl rfl rfl hl.1 rfl (Nat.le_of_ble_eq_true rfl) dX10_bars_129 ⟨Nat.le_of_ble_eq_true rfl, Nat.le_of_ble_eq_true rfl⟩ (fun r68 h69 => ?_)
                have h69 : ((((r68 = 1)) ∨ ((r68 = 0)))) := h69
                rcases h69 with (rfl | rfl)
                · refine lv_if_eq (tgt := 139) hx hb dX10_bars_132 (by decide) (fun c9 => absurd c9 (by decide)) (fun _ => ?_)
                  refine lv_iconst (v := 1) hx hb dX10_bars_135 (by decide) ?_
                  refine lv_goto (tgt := 140) hx hb dX10_bars_136 (by decide) ?_
                  refine lv_istore (lv' := [(5, .int 1), (0, .ref (b 39)), (1, .int t), (2, .int co), (3, .int y94_3), (4, .int y94_4)]) hx hb dX10_bars_140 hl (by decide) rfl (fun ls hl => ?_)
                  have kc70 : (1 : Int32).toInt = 1 := rfl
                  exact L142 1 _  (lv_sub hl [4, 0] rfl)
                · refine lv_if_eq (tgt := 139) hx hb dX10_bars_132 (by decide) (fun _ => ?_) (fun c9 => absurd (by decide) c9)
                  refine lv_iconst (v := 0) hx hb dX10_bars_139 (by decide) ?_
                  refine lv_istore (lv' := [(5, .int 0), (0, .ref (b 39)), (1, .int t), (2, .int co), (3, .int y94_3), (4, .int y94_4)]) hx hb dX10_bars_140 hl (by decide) rfl (fun ls hl => ?_)
                  have kc71 : (0 : Int32).toInt = 0 := rfl
                  exact L142 0 _  (lv_sub hl [4, 0] rfl)
        have kc72 : (0 : Int32).toInt = 0 := rfl
        exact L45 0 _  (lv_sub hl [1, 2, 3, 0] rfl)
      · have dc48 : r46.toInt ≤ r43.toInt := nltC rfl rfl c48
        refine lv_iconst (v := 1) hx hb dX10_bars_39 (by decide) ?_
        refine lv_goto (tgt := 44) hx hb dX10_bars_40 (by decide) ?_
        refine lv_istore_n (lv' := [(3, .int 1), (0, .ref (b 39)), (1, .int t), (2, .int co)]) hx hb dX10_bars_44 rfl hl (by decide) rfl (fun ls hl => ?_)
        have L94 : ∀ (y94_3 : Int32) (y94_4 : Int32) (ls : Array Slot), lv_has ls 6 [(0, .ref (b 39)), (1, .int t), (2, .int co), (3, .int y94_3), (4, .int y94_4)] → W p l e (headSpec wsX10_bars { frames := 2, cells := 0, slots := 0, locals := 48 }).room s m ([.ref (b 39), .int t, .int co] : List Value).toArray below meth c s.heap [] 0 0 (MQ below (QR (fun r : Int32 => True)) ([.ref (b 39), .int t, .int co] : List Value).toArray s 0 0 (fun _ => False)) (F0 m 94 ls []) := by
          intro y94_3 y94_4 ls  hl
          have L142 : ∀ (y142_5 : Int32) (ls : Array Slot), lv_has ls 6 [(3, .int y94_3), (5, .int y142_5)] → W p l e (headSpec wsX10_bars { frames := 2, cells := 0, slots := 0, locals := 48 }).room s m ([.ref (b 39), .int t, .int co] : List Value).toArray below meth c s.heap [] 0 0 (MQ below (QR (fun r : Int32 => True)) ([.ref (b 39), .int t, .int co] : List Value).toArray s 0 0 (fun _ => False)) (F0 m 142 ls []) := by
            intro y142_5 ls  hl
            refine lv_iload_n hx hb dX10_bars_142 rfl (lv_at hl 0 rfl) ?_
            refine lv_iload hx hb dX10_bars_143 (lv_at hl 1 rfl) ?_
            refine lv_if_eq (tgt := 152) hx hb dX10_bars_145 (by decide) (fun c73 => ?_) (fun c73 => ?_)
            · have dc73 : y142_5.toInt = 0 := eqC rfl (show (0 : Int32).toInt = 0 from rfl) c73
              refine lv_iconst (v := 0) hx hb dX10_bars_152 (by decide) ?_
              refine lv_iadd hx hb dX10_bars_153 ?_
              exact W.iret (v := y94_3 + 0) hx hb hr (fun tq ht hW => ⟨y94_3 + 0, rfl, trivial, ht⟩) (fun q h => by cases h) dX10_bars_154
            · have dc73 : y142_5.toInt ≠ 0 := neC rfl (show (0 : Int32).toInt = 0 from rfl) c73
              refine lv_iconst (v := 4) hx hb dX10_bars_148 (by decide) ?_
              refine lv_goto (tgt := 153) hx hb dX10_bars_149 (by decide) ?_
              refine lv_iadd hx hb dX10_bars_153 ?_
              exact W.iret (v := y94_3 + 4) hx hb hr (fun tq ht hW => ⟨y94_3 + 4, rfl, trivial, ht⟩) (fun q h => by cases h) dX10_bars_154
          refine lv_iload_n hx hb dX10_bars_94 rfl (lv_at hl 2 rfl) ?_
          refine lv_bipush (v := 6) hx hb dX10_bars_95 (by decide) ?_
          refine lv_irem hx hb dX10_bars_97 (by decide) ?_
          have f74 : (co - co / 6 * 6).toInt = (co.toInt) % (6) := remC rfl (show (6 : Int32).toInt = 6 from rfl) (by omega) (by omega)
          refine lv_if_le (tgt := 114) hx hb dX10_bars_98 (by decide) (fun c75 => ?_) (fun c75 => ?_)
          · have dc75 : (co.toInt) % (6) ≤ 0 := leC f74 (show (0 : Int32).toInt = 0 from rfl) c75
            refine lv_iload_n hx hb dX10_bars_114 rfl (lv_at hl 2 rfl) ?_
            refine lv_bipush (v := 6) hx hb dX10_bars_115 (by decide) ?_
            refine lv_irem hx hb dX10_bars_117 (by decide) ?_
            have f76 : (co - co / 6 * 6).toInt = (co.toInt) % (6) := remC rfl (show (6 : Int32).toInt = 6 from rfl) (by omega) (by omega)
            refine lv_iconst (v := 5) hx hb dX10_bars_118 (by decide) ?_
            refine lv_icmp_ge (tgt := 139) hx hb dX10_bars_119 (by decide) (fun c77 => ?_) (fun c77 => ?_)
            · have dc77 : 5 ≤ (co.toInt) % (6) := leC (show (5 : Int32).toInt = 5 from rfl) f76 c77
              refine lv_iconst (v := 0) hx hb dX10_bars_139 (by decide) ?_
              refine lv_istore (lv' := [(5, .int 0), (0, .ref (b 39)), (1, .int t), (2, .int co), (3, .int y94_3), (4, .int y94_4)]) hx hb dX10_bars_140 hl (by decide) rfl (fun ls hl => ?_)
              have kc78 : (0 : Int32).toInt = 0 := rfl
              exact L142 0 _  (lv_sub hl [4, 0] rfl)
            · have dc77 : (co.toInt) % (6) < 5 := nleC (show (5 : Int32).toInt = 5 from rfl) f76 c77
              refine lv_aload_n hx hb dX10_bars_122 rfl (lv_at hl 0 rfl) ?_
              refine lv_iload_n hx hb dX10_bars_123 rfl (lv_at hl 1 rfl) ?_
              refine lv_iload_n hx hb dX10_bars_124 rfl (lv_at hl 2 rfl) ?_
              refine lv_iconst (v := 1) hx hb dX10_bars_125 (by decide) ?_
              refine lv_iadd hx hb dX10_bars_126 ?_
              have f79 : (co + 1).toInt = (co.toInt) + (1) := addC rfl (show (1 : Int32).toInt = 1 from rfl) (by omega) (by omega)
              refine lv_iload hx hb dX10_bars_127 (lv_at hl 4 rfl) ?_
              refine rdV (As := [.int t, .int (co + 1), .int y94_4]) (rest := []) ⟨hx, hb, hml, hown, hts⟩ (k_X10_isTooLike l dC dI cI cZ cQ b mday mdoo mdA mdB mfar mmar mtel mgai mfal mtop mstr mgho mfai mpto mwal mahd mahf mcho mbes mbyt mtxt mpos mtka mtok mdig mnum mfau mrdm mrea mlin mlne mthg mord mbor mbsm mans mand manr mali t (co + 1) y94_4 r_mday r_mdoo r_mdA r_mdB r_mmar r_mgai r_mfal r_mtop r_mstr r_mgho r_mfai r_mahd r_mahf r_mcho r_mbyt r_mpos r_mrdm r_mlin r_mthg r_mord r_mans (by omega) (by omega) (by omega) (by omega)) (cwV 3 hts gX10_bars_X10_isTooLike rfl rfl rfl (by decide +kernel) ⟨Nat.le_of_ble_eq_true rfl, Nat.le_of_ble_eq_true rfl⟩) hP hK hN [0, 1, 2, 3, 4, 5, 6, 7, 8, 9, 10, 11, 12, 13, 14, 15, 16, 17, 18, 19, 20, 21, 22, 23, 24, 25] rfl 0 10 rfl rfl rfl hl.1 rfl (Nat.le_of_ble_eq_true rfl) dX10_bars_129 ⟨Nat.le_of_ble_eq_true rfl, Nat.le_of_ble_eq_true rfl⟩ (fun r80 h81 => ?_)
              have h81 : ((((r80 = 1)) ∨ ((r80 = 0)))) := h81
              rcases h81 with (rfl | rfl)
              · refine lv_if_eq (tgt := 139) hx hb dX10_bars_132 (by decide) (fun c9 => absurd c9 (by decide)) (fun _ => ?_)
                refine lv_iconst (v := 1) hx hb dX10_bars_135 (by decide) ?_
                refine lv_goto (tgt := 140) hx hb dX10_bars_136 (by decide) ?_
                refine lv_istore (lv' := [(5, .int 1), (0, .ref (b 39)), (1, .int t), (2, .int co), (3, .int y94_3), (4, .int y94_4)]) hx hb dX10_bars_140 hl (by decide) rfl (fun ls hl => ?_)
                have kc82 : (1 : Int32).toInt = 1 := rfl
                exact L142 1 _  (lv_sub hl [4, 0] rfl)
              · refine lv_if_eq (tgt := 139) hx hb dX10_bars_132 (by decide) (fun _ => ?_) (fun c9 => absurd (by decide) c9)
                refine lv_iconst (v := 0) hx hb dX10_bars_139 (by decide) ?_
                refine lv_istore (lv' := [(5, .int 0), (0, .ref (b 39)), (1, .int t), (2, .int co), (3, .int y94_3), (4, .int y94_4)]) hx hb dX10_bars_140 hl (by decide) rfl (fun ls hl => ?_)
                have kc83 : (0 : Int32).toInt = 0 := rfl
                exact L142 0 _  (lv_sub hl [4, 0] rfl)
          · have dc75 : 0 < (co.toInt) % (6) := nleC f74 (show (0 : Int32).toInt = 0 from rfl) c75
            refine lv_aload_n hx hb dX10_bars_101 rfl (lv_at hl 0 rfl) ?_
            refine lv_iload_n hx hb dX10_bars_102 rfl (lv_at hl 1 rfl) ?_
            refine lv_iload_n hx hb dX10_bars_103 rfl (lv_at hl 2 rfl) ?_
            refine lv_iconst (v := 1) hx hb dX10_bars_104 (by decide) ?_
            refine lv_isub hx hb dX10_bars_105 ?_
            have f84 : (co - 1).toInt = (co.toInt) - (1) := subC rfl (show (1 : Int32).toInt = 1 from rfl) (by omega) (by omega)
            refine lv_iload hx hb dX10_bars_106 (lv_at hl 4 rfl) ?_
            refine rdV (As := [.int t, .int (co - 1), .int y94_4]) (rest := []) ⟨hx, hb, hml, hown, hts⟩ (k_X10_isTooLike l dC dI cI cZ cQ b mday mdoo mdA mdB mfar mmar mtel mgai mfal mtop mstr mgho mfai mpto mwal mahd mahf mcho mbes mbyt mtxt mpos mtka mtok mdig mnum mfau mrdm mrea mlin mlne mthg mord mbor mbsm mans mand manr mali t (co - 1) y94_4 r_mday r_mdoo r_mdA r_mdB r_mmar r_mgai r_mfal r_mtop r_mstr r_mgho r_mfai r_mahd r_mahf r_mcho r_mbyt r_mpos r_mrdm r_mlin r_mthg r_mord r_mans (by omega) (by omega) (by omega) (by omega)) (cwV 3 hts gX10_bars_X10_isTooLike rfl rfl rfl (by decide +kernel) ⟨Nat.le_of_ble_eq_true rfl, Nat.le_of_ble_eq_true rfl⟩) hP hK hN [0, 1, 2, 3, 4, 5, 6, 7, 8, 9, 10, 11, 12, 13, 14, 15, 16, 17, 18, 19, 20, 21, 22, 23, 24, 25] rfl 0 10 rfl rfl rfl hl.1 rfl (Nat.le_of_ble_eq_true rfl) dX10_bars_108 ⟨Nat.le_of_ble_eq_true rfl, Nat.le_of_ble_eq_true rfl⟩ (fun r85 h86 => ?_)
            have h86 : ((((r85 = 1)) ∨ ((r85 = 0)))) := h86
            rcases h86 with (rfl | rfl)
            · refine lv_if_ne (tgt := 135) hx hb dX10_bars_111 (by decide) (fun _ => ?_) (fun c9 => absurd c9 (by decide))
              refine lv_iconst (v := 1) hx hb dX10_bars_135 (by decide) ?_
              refine lv_goto (tgt := 140) hx hb dX10_bars_136 (by decide) ?_
              refine lv_istore (lv' := [(5, .int 1), (0, .ref (b 39)), (1, .int t), (2, .int co), (3, .int y94_3), (4, .int y94_4)]) hx hb dX10_bars_140 hl (by decide) rfl (fun ls hl => ?_)
              have kc87 : (1 : Int32).toInt = 1 := rfl
              exact L142 1 _  (lv_sub hl [4, 0] rfl)
            · refine lv_if_ne (tgt := 135) hx hb dX10_bars_111 (by decide) (fun c9 => absurd (by decide) c9) (fun _ => ?_)
              refine lv_iload_n hx hb dX10_bars_114 rfl (lv_at hl 2 rfl) ?_
              refine lv_bipush (v := 6) hx hb dX10_bars_115 (by decide) ?_
              refine lv_irem hx hb dX10_bars_117 (by decide) ?_
              have f88 : (co - co / 6 * 6).toInt = (co.toInt) % (6) := remC rfl (show (6 : Int32).toInt = 6 from rfl) (by omega) (by omega)
              refine lv_iconst (v := 5) hx hb dX10_bars_118 (by decide) ?_
              refine lv_icmp_ge (tgt := 139) hx hb dX10_bars_119 (by decide) (fun c89 => ?_) (fun c89 => ?_)
              · have dc89 : 5 ≤ (co.toInt) % (6) := leC (show (5 : Int32).toInt = 5 from rfl) f88 c89
                refine lv_iconst (v := 0) hx hb dX10_bars_139 (by decide) ?_
                refine lv_istore (lv' := [(5, .int 0), (0, .ref (b 39)), (1, .int t), (2, .int co), (3, .int y94_3), (4, .int y94_4)]) hx hb dX10_bars_140 hl (by decide) rfl (fun ls hl => ?_)
                have kc90 : (0 : Int32).toInt = 0 := rfl
                exact L142 0 _  (lv_sub hl [4, 0] rfl)
              · have dc89 : (co.toInt) % (6) < 5 := nleC (show (5 : Int32).toInt = 5 from rfl) f88 c89
                refine lv_aload_n hx hb dX10_bars_122 rfl (lv_at hl 0 rfl) ?_
                refine lv_iload_n hx hb dX10_bars_123 rfl (lv_at hl 1 rfl) ?_
                refine lv_iload_n hx hb dX10_bars_124 rfl (lv_at hl 2 rfl) ?_
                refine lv_iconst (v := 1) hx hb dX10_bars_125 (by decide) ?_
                refine lv_iadd hx hb dX10_bars_126 ?_
                have f91 : (co + 1).toInt = (co.toInt) + (1) := addC rfl (show (1 : Int32).toInt = 1 from rfl) (by omega) (by omega)
                refine lv_iload hx hb dX10_bars_127 (lv_at hl 4 rfl) ?_
                refine rdV (As := [.int t, .int (co + 1), .int y94_4]) (rest := []) ⟨hx, hb, hml, hown, hts⟩ (k_X10_isTooLike l dC dI cI cZ cQ b mday mdoo mdA mdB mfar mmar mtel mgai mfal mtop mstr mgho mfai mpto mwal mahd mahf mcho mbes mbyt mtxt mpos mtka mtok mdig mnum mfau mrdm mrea mlin mlne mthg mord mbor mbsm mans mand manr mali t (co + 1) y94_4 r_mday r_mdoo r_mdA r_mdB r_mmar r_mgai r_mfal r_mtop r_mstr r_mgho r_mfai r_mahd r_mahf r_mcho r_mbyt r_mpos r_mrdm r_mlin r_mthg r_mord r_mans (by omega) (by omega) (by omega) (by omega)) (cwV 3 hts gX10_bars_X10_isTooLike rfl rfl rfl (by decide +kernel) ⟨Nat.le_of_ble_eq_true rfl, Nat.le_of_ble_eq_true rfl⟩) hP hK hN [0, 1, 2, 3, 4, 5, 6, 7, 8, 9, 10, 11, 12, 13, 14, 15, 16, 17, 18, 19, 20, 21, 22, 23, 24, 25] rfl 0 10 rfl rfl rfl hl.1 rfl (Nat.le_of_ble_eq_true rfl) dX10_bars_129 ⟨Nat.le_of_ble_eq_true rfl, Nat.le_of_ble_eq_true rfl⟩ (fun r92 h93 => ?_)
                have h93 : ((((r92 = 1)) ∨ ((r92 = 0)))) := h93
                rcases h93 with (rfl | rfl)
                · refine lv_if_eq (tgt := 139) hx hb dX10_bars_132 (by decide) (fun c9 => absurd c9 (by decide)) (fun _ => ?_)
                  refine lv_iconst (v := 1) hx hb dX10_bars_135 (by decide) ?_
                  refine lv_goto (tgt := 140) hx hb dX10_bars_136 (by decide) ?_
                  refine lv_istore (lv' := [(5, .int 1), (0, .ref (b 39)), (1, .int t), (2, .int co), (3, .int y94_3), (4, .int y94_4)]) hx hb dX10_bars_140 hl (by decide) rfl (fun ls hl => ?_)
                  have kc94 : (1 : Int32).toInt = 1 := rfl
                  exact L142 1 _  (lv_sub hl [4, 0] rfl)
                · refine lv_if_eq (tgt := 139) hx hb dX10_bars_132 (by decide) (fun _ => ?_) (fun c9 => absurd (by decide) c9)
                  refine lv_iconst (v := 0) hx hb dX10_bars_139 (by decide) ?_
                  refine lv_istore (lv' := [(5, .int 0), (0, .ref (b 39)), (1, .int t), (2, .int co), (3, .int y94_3), (4, .int y94_4)]) hx hb dX10_bars_140 hl (by decide) rfl (fun ls hl => ?_)
                  have kc95 : (0 : Int32).toInt = 0 := rfl
                  exact L142 0 _  (lv_sub hl [4, 0] rfl)
        have kc96 : (1 : Int32).toInt = 1 := rfl
        exact L45 1 _  (lv_sub hl [1, 2, 3, 0] rfl)
    · refine lv_if_ne (tgt := 17) hx hb dX10_bars_11 (by decide) (fun c9 => absurd (by decide) c9) (fun _ => ?_)
      refine lv_bipush (v := (-2)) hx hb dX10_bars_14 (by decide) ?_
      exact W.iret (v := (-2)) hx hb hr (fun tq ht hW => ⟨(-2), rfl, trivial, ht⟩) (fun q h => by cases h) dX10_bars_16
  · refine lv_if_eq (tgt := 14) hx hb dX10_bars_4 (by decide) (fun _ => ?_) (fun c9 => absurd (by decide) c9)
    refine lv_bipush (v := (-2)) hx hb dX10_bars_14 (by decide) ?_
    exact W.iret (v := (-2)) hx hb hr (fun tq ht hW => ⟨(-2), rfl, trivial, ht⟩) (fun q h => by cases h) dX10_bars_16
set_option maxHeartbeats 4000000 in
set_option maxRecDepth 100000 in
theorem k_X10_due (l : Launch) (dC : Nat → ClassId) (dI : Nat → Nat → Nat) (cI cZ cQ : ClassId) (b : Nat → Nat) (mday : Int32) (mdoo : Int32) (mdA : Nat → Int32) (mdB : Nat → Int32) (mfar : Nat → Int32) (mmar : Nat → Int32) (mtel : Int32) (mgai : Int32) (mfal : Nat → Int32) (mtop : Nat → Int32) (mstr : Nat → Int32) (mgho : Nat → Int32) (mfai : Nat → Int32) (mpto : Nat → Int32) (mwal : Nat → Int32) (mahd : Nat → Int32) (mahf : Nat → Int32) (mcho : Nat → Int32) (mbes : Nat → Int32) (mbyt : Int32) (mtxt : Nat → Int32) (mpos : Int32) (mtka : Int32) (mtok : Int64) (mdig : Int32) (mnum : Int32) (mfau : Int32) (mrdm : Int32) (mrea : Nat → Int32) (mlin : Int32) (mlne : Nat → Int32) (mthg : Nat → Int32) (mord : Nat → Int32) (mbor : Nat → Int32) (mbsm : Int32) (mans : Nat → Int32) (mand : Nat → Int32) (manr : Nat → Int32) (mali : Nat → Int32) (r_mday : 0 ≤ mday.toInt ∧ mday.toInt ≤ 400) (r_mdoo : 0 ≤ mdoo.toInt ∧ mdoo.toInt ≤ 14) (r_mdA : rg 14 (0) (7) mdA) (r_mdB : rg 14 (0) (7) mdB) (r_mmar : rg 24 (0) (255) mmar) (r_mgai : 0 ≤ mgai.toInt ∧ mgai.toInt ≤ 100) (r_mfal : rg 11 (0) (30) mfal) (r_mtop : rg 48 (-1) (23) mtop) (r_mstr : rg 48 (0) (100) mstr) (r_mgho : rg 48 (-1) (23) mgho) (r_mfai : rg 48 (0) (100) mfai) (r_mahd : rg 240 (0) (100) mahd) (r_mahf : rg 240 (0) (100) mahf) (r_mcho : rg 5 (-1) (9) mcho) (r_mbyt : 0 ≤ mbyt.toInt ∧ mbyt.toInt ≤ 160) (r_mpos : 0 ≤ mpos.toInt ∧ mpos.toInt ≤ 160) (r_mrdm : 0 ≤ mrdm.toInt ∧ mrdm.toInt ≤ 10) (r_mlin : 0 ≤ mlin.toInt ∧ mlin.toInt ≤ 10) (r_mthg : rg 8 (0) (31) mthg) (r_mord : rg 8 (-1) (8) mord) (r_mans : rg 4 (0) (12) mans) : KR l yX10_due wsX10_due { frames := 1, cells := 0, slots := 0, locals := 25 } (dC, dI) (TY cI cZ cQ) (wMod cI cZ cQ b mday mdoo mdA mdB mfar mmar mtel mgai mfal mtop mstr mgho mfai mpto mwal mahd mahf mcho mbes mbyt mtxt mpos mtka mtok mdig mnum mfau mrdm mrea mlin mlne mthg mord mbor mbsm mans mand manr mali) [.ref (b 39)] (fun r : Int32 => True) := by
  refine Met.ofW (cc := cX10_due) (maxL := 5) (ret := (some .int)) (by decide) rfl ?_
  intro p e s m args below meth c s₁ B hml hv
  obtain ⟨rfl, hP, hK, hN⟩ := hv
  have hx := B.exec
  have hb := B.bytes
  have hr := B.returns
  have hts := atoms_spec (ws := wsX10_due) B.pre
  have hown : s.vm.findClass RX10 = some m.cls := findClass_of_methodNamed B.named
  have hlocks := B.notSynchronized
  have lf47 := hts (.fieldLink RX10 47 "PalaceOfRoomsModel" "walkedOn" "[I") (by decide +kernel)
  have inX10 : ∀ w ∈ wsX100, w ∈ wsX10_due := by decide +kernel
  have lf125 := hts (.fieldLink RX10 125 "PalaceOfRoomsModel" "day" "I") (by decide +kernel)
  have hl := lv_entry ([.ref (b 39)]) (n := 5) (Nat.le_of_ble_eq_true rfl)
  rw [lg_entry_eq]
  generalize (lg_sl ([.ref (b 39)]) ++ List.replicate (5 - (lg_sl ([.ref (b 39)])).length) Slot.unset).toArray = ls at hl ⊢
  have hl : lv_has ls 5 [(0, .ref (b 39))] := hl
  refine lv_iconst (v := 0) hx hb dX10_due_0 (by decide) ?_
  refine lv_istore_n (lv' := [(1, .int 0), (0, .ref (b 39))]) hx hb dX10_due_1 rfl hl (by decide) rfl (fun ls hl => ?_)
  refine lv_iconst (v := 0) hx hb dX10_due_2 (by decide) ?_
  refine lv_istore_n (lv' := [(2, .int 0), (1, .int 0), (0, .ref (b 39))]) hx hb dX10_due_3 rfl hl (by decide) rfl (fun ls hl => ?_)
  have L4 : ∀ (nn : Nat) (y4_1 : Int32) (y4_2 : Int32) (ls : Array Slot), (0 ≤ (y4_2.toInt)) → ((y4_2.toInt) ≤ 8) → (8 - (y4_2.toInt)).toNat < nn → lv_has ls 5 [(0, .ref (b 39)), (1, .int y4_1), (2, .int y4_2)] → W p l e (headSpec wsX10_due { frames := 1, cells := 0, slots := 0, locals := 25 }).room s m ([.ref (b 39)] : List Value).toArray below meth c s.heap [] 0 0 (MQ below (QR (fun r : Int32 => True)) ([.ref (b 39)] : List Value).toArray s 0 0 (fun _ => False)) (F0 m 4 ls []) := by
    intro nn
    induction nn with
    | zero =>
      intro y4_1 y4_2 ls i4_0 i4_1 hm
      exact absurd hm (Nat.not_lt_zero _)
    | succ nn ih4 =>
      intro y4_1 y4_2 ls i4_0 i4_1 hm hl
      refine lv_iload_n hx hb dX10_due_4 rfl (lv_at hl 2 rfl) ?_
      refine lv_bipush (v := 8) hx hb dX10_due_5 (by decide) ?_
      refine lv_icmp_ge (tgt := 75) hx hb dX10_due_7 (by decide) (fun c1 => ?_) (fun c1 => ?_)
      · have dc1 : 8 ≤ y4_2.toInt := leC (show (8 : Int32).toInt = 8 from rfl) rfl c1
        refine lv_iload_n hx hb dX10_due_75 rfl (lv_at hl 1 rfl) ?_
        exact W.iret (v := y4_1) hx hb hr (fun tq ht hW => ⟨y4_1, rfl, trivial, ht⟩) (fun q h => by cases h) dX10_due_76
      · have dc1 : y4_2.toInt < 8 := nleC (show (8 : Int32).toInt = 8 from rfl) rfl c1
        refine lv_aload_n hx hb dX10_due_10 rfl (lv_at hl 0 rfl) ?_
        refine lv_iconst (v := 3) hx hb dX10_due_11 (by decide) ?_
        refine lv_iload_n hx hb dX10_due_12 rfl (lv_at hl 2 rfl) ?_
        refine lv_iconst (v := 0) hx hb dX10_due_13 (by decide) ?_
        refine rdV (As := [.int 3, .int y4_2, .int 0]) (rest := []) ⟨hx, hb, hml, hown, hts⟩ (k_X10_lastOf l dC dI cI cZ cQ b mday mdoo mdA mdB mfar mmar mtel mgai mfal mtop mstr mgho mfai mpto mwal mahd mahf mcho mbes mbyt mtxt mpos mtka mtok mdig mnum mfau mrdm mrea mlin mlne mthg mord mbor mbsm mans mand manr mali (3 : Int32) y4_2 (0 : Int32) r_mday r_mdoo r_mdA r_mdB r_mmar r_mgai r_mfal r_mtop r_mstr r_mgho r_mfai r_mahd r_mahf r_mcho r_mbyt r_mpos r_mrdm r_mlin r_mthg r_mord r_mans) (cwV 3 hts gX10_due_X10_lastOf rfl rfl rfl (by decide +kernel) ⟨Nat.le_of_ble_eq_true rfl, Nat.le_of_ble_eq_true rfl⟩) hP hK hN [0, 1, 2, 3, 4, 5, 6, 7, 8, 9, 10, 11, 12, 13, 14, 15, 16, 17, 18, 19, 20, 21, 22, 23, 24, 25] rfl 0 10 rfl rfl rfl hl.1 rfl (Nat.le_of_ble_eq_true rfl) dX10_due_14 ⟨Nat.le_of_ble_eq_true rfl, Nat.le_of_ble_eq_true rfl⟩ (fun r2 h3 => ?_)
        have h3 : True := h3
        refine lv_istore_n (lv' := [(3, .int r2), (0, .ref (b 39)), (1, .int y4_1), (2, .int y4_2)]) hx hb dX10_due_17 rfl hl (by decide) rfl (fun ls hl => ?_)
        refine lv_iload_n hx hb dX10_due_18 rfl (lv_at hl 0 rfl) ?_
        refine lv_if_le (tgt := 51) hx hb dX10_due_19 (by decide) (fun c4 => ?_) (fun c4 => ?_)
        · have dc4 : r2.toInt ≤ 0 := leC rfl (show (0 : Int32).toInt = 0 from rfl) c4
          refine lv_iconst (v := 0) hx hb dX10_due_51 (by decide) ?_
          refine lv_istore (lv' := [(4, .int 0), (3, .int r2), (0, .ref (b 39)), (1, .int y4_1), (2, .int y4_2)]) hx hb dX10_due_52 hl (by decide) rfl (fun ls hl => ?_)
          refine lv_iload_n hx hb dX10_due_54 rfl (lv_at hl 3 rfl) ?_
          refine lv_iload hx hb dX10_due_55 (lv_at hl 0 rfl) ?_
          refine lv_if_eq (tgt := 66) hx hb dX10_due_57 (by decide) (fun _ => ?_) (fun c9 => absurd (by decide) c9)
          refine lv_iconst (v := 0) hx hb dX10_due_66 (by decide) ?_
          refine lv_ior hx hb dX10_due_67 ?_
          refine lv_topi (fun x5 ex5 => ?_)
          have ix5 : x5.toInt = (y4_1 ||| 0).toInt := by rw [ex5]
          refine lv_istore_n (lv' := [(1, .int x5), (4, .int 0), (3, .int r2), (0, .ref (b 39)), (2, .int y4_2)]) hx hb dX10_due_68 rfl hl (by decide) rfl (fun ls hl => ?_)
          obtain ⟨z6, ez6⟩ : ∃ y : Int32, y = y4_2 + 1 := ⟨_, rfl⟩
          have iz6 : z6.toInt = y4_2.toInt + 1 := by rw [ez6]; exact addC rfl rfl (by omega) (by omega)
          refine lv_iinc (v := z6) (lv' := [(2, .int z6), (1, .int x5), (4, .int 0), (3, .int r2), (0, .ref (b 39))]) hx hb dX10_due_69 hl (k := 4) rfl (by rw [ez6]; rfl) (by decide) rfl (fun ls hl => ?_)
          refine lv_goto (tgt := 4) hx hb dX10_due_72 (by decide) ?_
          exact ih4 x5 z6 _ (by omega) (by omega) (by omega) (lv_sub hl [4, 1, 0] rfl)
        · have dc4 : 0 < r2.toInt := nleC rfl (show (0 : Int32).toInt = 0 from rfl) c4
          refine lv_aload_n hx hb dX10_due_22 rfl (lv_at hl 1 rfl) ?_
          refine va_get (D := (dC, dI)) (ci := 10) (v := .ref (b 14)) (C := RX10) (T := TX10) (N := 39) hx hb hts inX10 hown hK hP 0 rfl rfl 14 (by decide) lf47 (fun _ h9 => h9) rfl dX10_due_23 ?_
          refine lv_iload_n hx hb dX10_due_26 rfl (lv_at hl 3 rfl) ?_
          have b7 : vp_in y4_2 8 := inC rfl (by omega) (by omega)
          refine va_iald hx hb hK hP 11 0 rfl rfl b7 dX10_due_27 ?_
          refine lv_iconst (v := (-1)) hx hb dX10_due_28 (by decide) ?_
          refine lv_icmp_eq (tgt := 47) hx hb dX10_due_29 (by decide) (fun c8 => ?_) (fun c8 => ?_)
          · have dc8 : (mwal y4_2.toNatClampNeg).toInt = (-1) := eqC rfl (show ((-1) : Int32).toInt = (-1) from rfl) c8
            refine lv_iconst (v := 1) hx hb dX10_due_47 (by decide) ?_
            refine lv_goto (tgt := 52) hx hb dX10_due_48 (by decide) ?_
            refine lv_istore (lv' := [(4, .int 1), (3, .int r2), (0, .ref (b 39)), (1, .int y4_1), (2, .int y4_2)]) hx hb dX10_due_52 hl (by decide) rfl (fun ls hl => ?_)
            refine lv_iload_n hx hb dX10_due_54 rfl (lv_at hl 3 rfl) ?_
            refine lv_iload hx hb dX10_due_55 (lv_at hl 0 rfl) ?_
            refine lv_if_eq (tgt := 66) hx hb dX10_due_57 (by decide) (fun c9 => absurd c9 (by decide)) (fun _ => ?_)
            refine lv_iconst (v := 1) hx hb dX10_due_60 (by decide) ?_
            refine lv_iload_n hx hb dX10_due_61 rfl (lv_at hl 4 rfl) ?_
            refine lv_ishl hx hb dX10_due_62 ?_
            have f9 : 1 ≤ ((1 : Int32) <<< (y4_2 &&& 31)).toInt ∧ ((1 : Int32) <<< (y4_2 &&& 31)).toInt ≤ 128 := shl1 rfl (by omega) 7 (by omega) (by decide)
            refine lv_goto (tgt := 67) hx hb dX10_due_63 (by decide) ?_
            refine lv_ior hx hb dX10_due_67 ?_
            refine lv_topi (fun x10 ex10 => ?_)
            have ix10 : x10.toInt = (y4_1 ||| ((1 : Int32) <<< (y4_2 &&& 31))).toInt := by rw [ex10]
            refine lv_istore_n (lv' := [(1, .int x10), (4, .int 1), (3, .int r2), (0, .ref (b 39)), (2, .int y4_2)]) hx hb dX10_due_68 rfl hl (by decide) rfl (fun ls hl => ?_)
            obtain ⟨z11, ez11⟩ : ∃ y : Int32, y = y4_2 + 1 := ⟨_, rfl⟩
            have iz11 : z11.toInt = y4_2.toInt + 1 := by rw [ez11]; exact addC rfl rfl (by omega) (by omega)
            refine lv_iinc (v := z11) (lv' := [(2, .int z11), (1, .int x10), (4, .int 1), (3, .int r2), (0, .ref (b 39))]) hx hb dX10_due_69 hl (k := 4) rfl (by rw [ez11]; rfl) (by decide) rfl (fun ls hl => ?_)
            refine lv_goto (tgt := 4) hx hb dX10_due_72 (by decide) ?_
            exact ih4 x10 z11 _ (by omega) (by omega) (by omega) (lv_sub hl [4, 1, 0] rfl)
          · have dc8 : (mwal y4_2.toNatClampNeg).toInt ≠ (-1) := neC rfl (show ((-1) : Int32).toInt = (-1) from rfl) c8
            refine lv_aload_n hx hb dX10_due_32 rfl (lv_at hl 1 rfl) ?_
            refine va_get (D := (dC, dI)) (ci := 10) (v := .int mday) (C := RX10) (T := TX10) (N := 39) hx hb hts inX10 hown hK hP 0 rfl rfl 0 (by decide) lf125 (fun _ h9 => h9) rfl dX10_due_33 ?_
            refine lv_aload_n hx hb dX10_due_36 rfl (lv_at hl 1 rfl) ?_
            refine va_get (D := (dC, dI)) (ci := 10) (v := .ref (b 14)) (C := RX10) (T := TX10) (N := 39) hx hb hts inX10 hown hK hP 0 rfl rfl 14 (by decide) lf47 (fun _ h9 => h9) rfl dX10_due_37 ?_
            refine lv_iload_n hx hb dX10_due_40 rfl (lv_at hl 3 rfl) ?_
            have b12 : vp_in y4_2 8 := inC rfl (by omega) (by omega)
            refine va_iald hx hb hK hP 11 0 rfl rfl b12 dX10_due_41 ?_
            refine lv_isub hx hb dX10_due_42 ?_
            refine lv_iload_n hx hb dX10_due_43 rfl (lv_at hl 0 rfl) ?_
            refine lv_icmp_lt (tgt := 51) hx hb dX10_due_44 (by decide) (fun c13 => ?_) (fun c13 => ?_)
            · have dc13 : (mday - (mwal y4_2.toNatClampNeg)).toInt < r2.toInt := ltC rfl rfl c13
              refine lv_iconst (v := 0) hx hb dX10_due_51 (by decide) ?_
              refine lv_istore (lv' := [(4, .int 0), (3, .int r2), (0, .ref (b 39)), (1, .int y4_1), (2, .int y4_2)]) hx hb dX10_due_52 hl (by decide) rfl (fun ls hl => ?_)
              refine lv_iload_n hx hb dX10_due_54 rfl (lv_at hl 3 rfl) ?_
              refine lv_iload hx hb dX10_due_55 (lv_at hl 0 rfl) ?_
              refine lv_if_eq (tgt := 66) hx hb dX10_due_57 (by decide) (fun _ => ?_) (fun c9 => absurd (by decide) c9)
              refine lv_iconst (v := 0) hx hb dX10_due_66 (by decide) ?_
              refine lv_ior hx hb dX10_due_67 ?_
              refine lv_topi (fun x14 ex14 => ?_)
              have ix14 : x14.toInt = (y4_1 ||| 0).toInt := by rw [ex14]
              refine lv_istore_n (lv' := [(1, .int x14), (4, .int 0), (3, .int r2), (0, .ref (b 39)), (2, .int y4_2)]) hx hb dX10_due_68 rfl hl (by decide) rfl (fun ls hl => ?_)
              obtain ⟨z15, ez15⟩ : ∃ y : Int32, y = y4_2 + 1 := ⟨_, rfl⟩
              have iz15 : z15.toInt = y4_2.toInt + 1 := by rw [ez15]; exact addC rfl rfl (by omega) (by omega)
              refine lv_iinc (v := z15) (lv' := [(2, .int z15), (1, .int x14), (4, .int 0), (3, .int r2), (0, .ref (b 39))]) hx hb dX10_due_69 hl (k := 4) rfl (by rw [ez15]; rfl) (by decide) rfl (fun ls hl => ?_)
              refine lv_goto (tgt := 4) hx hb dX10_due_72 (by decide) ?_
              exact ih4 x14 z15 _ (by omega) (by omega) (by omega) (lv_sub hl [4, 1, 0] rfl)
            · have dc13 : r2.toInt ≤ (mday - (mwal y4_2.toNatClampNeg)).toInt := nltC rfl rfl c13
              refine lv_iconst (v := 1) hx hb dX10_due_47 (by decide) ?_
              refine lv_goto (tgt := 52) hx hb dX10_due_48 (by decide) ?_
              refine lv_istore (lv' := [(4, .int 1), (3, .int r2), (0, .ref (b 39)), (1, .int y4_1), (2, .int y4_2)]) hx hb dX10_due_52 hl (by decide) rfl (fun ls hl => ?_)
              refine lv_iload_n hx hb dX10_due_54 rfl (lv_at hl 3 rfl) ?_
              refine lv_iload hx hb dX10_due_55 (lv_at hl 0 rfl) ?_
              refine lv_if_eq (tgt := 66) hx hb dX10_due_57 (by decide) (fun c9 => absurd c9 (by decide)) (fun _ => ?_)
              refine lv_iconst (v := 1) hx hb dX10_due_60 (by decide) ?_
              refine lv_iload_n hx hb dX10_due_61 rfl (lv_at hl 4 rfl) ?_
              refine lv_ishl hx hb dX10_due_62 ?_
              have f16 : 1 ≤ ((1 : Int32) <<< (y4_2 &&& 31)).toInt ∧ ((1 : Int32) <<< (y4_2 &&& 31)).toInt ≤ 128 := shl1 rfl (by omega) 7 (by omega) (by decide)
              refine lv_goto (tgt := 67) hx hb dX10_due_63 (by decide) ?_
              refine lv_ior hx hb dX10_due_67 ?_
              refine lv_topi (fun x17 ex17 => ?_)
              have ix17 : x17.toInt = (y4_1 ||| ((1 : Int32) <<< (y4_2 &&& 31))).toInt := by rw [ex17]
              refine lv_istore_n (lv' := [(1, .int x17), (4, .int 1), (3, .int r2), (0, .ref (b 39)), (2, .int y4_2)]) hx hb dX10_due_68 rfl hl (by decide) rfl (fun ls hl => ?_)
              obtain ⟨z18, ez18⟩ : ∃ y : Int32, y = y4_2 + 1 := ⟨_, rfl⟩
              have iz18 : z18.toInt = y4_2.toInt + 1 := by rw [ez18]; exact addC rfl rfl (by omega) (by omega)
              refine lv_iinc (v := z18) (lv' := [(2, .int z18), (1, .int x17), (4, .int 1), (3, .int r2), (0, .ref (b 39))]) hx hb dX10_due_69 hl (k := 4) rfl (by rw [ez18]; rfl) (by decide) rfl (fun ls hl => ?_)
              refine lv_goto (tgt := 4) hx hb dX10_due_72 (by decide) ?_
              exact ih4 x17 z18 _ (by omega) (by omega) (by omega) (lv_sub hl [4, 1, 0] rfl)
  have kc19 : (0 : Int32).toInt = 0 := rfl
  exact L4 _ 0 0 _ (by omega) (by omega) (Nat.lt_succ_self _) (lv_sub hl [2, 1, 0] rfl)
