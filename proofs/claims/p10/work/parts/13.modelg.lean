theorem dX10_lastOf_0 : decode cX10_lastOf 0 = .ok (.iload_n 3, 1) := by decide +kernel
theorem dX10_lastOf_1 : decode cX10_lastOf 1 = .ok (.istore 4, 2) := by decide +kernel
theorem dX10_lastOf_3 : decode cX10_lastOf 3 = .ok (.iconst 0, 1) := by decide +kernel
theorem dX10_lastOf_4 : decode cX10_lastOf 4 = .ok (.istore 5, 2) := by decide +kernel
theorem dX10_lastOf_6 : decode cX10_lastOf 6 = .ok (.iload 5, 2) := by decide +kernel
theorem dX10_lastOf_8 : decode cX10_lastOf 8 = .ok (.aload_n 0, 1) := by decide +kernel
theorem dX10_lastOf_9 : decode cX10_lastOf 9 = .ok (.getfield 210, 3) := by decide +kernel
theorem dX10_lastOf_12 : decode cX10_lastOf 12 = .ok (.if_icmp .ge 55, 3) := by decide +kernel
theorem dX10_lastOf_15 : decode cX10_lastOf 15 = .ok (.aload_n 0, 1) := by decide +kernel
theorem dX10_lastOf_16 : decode cX10_lastOf 16 = .ok (.getfield 68, 3) := by decide +kernel
theorem dX10_lastOf_19 : decode cX10_lastOf 19 = .ok (.iconst 3, 1) := by decide +kernel
theorem dX10_lastOf_20 : decode cX10_lastOf 20 = .ok (.iload 5, 2) := by decide +kernel
theorem dX10_lastOf_22 : decode cX10_lastOf 22 = .ok (.imul, 1) := by decide +kernel
theorem dX10_lastOf_23 : decode cX10_lastOf 23 = .ok (.iaload, 1) := by decide +kernel
theorem dX10_lastOf_24 : decode cX10_lastOf 24 = .ok (.iload_n 1, 1) := by decide +kernel
theorem dX10_lastOf_25 : decode cX10_lastOf 25 = .ok (.if_icmp .ne 32, 3) := by decide +kernel
theorem dX10_lastOf_28 : decode cX10_lastOf 28 = .ok (.aload_n 0, 1) := by decide +kernel
theorem dX10_lastOf_29 : decode cX10_lastOf 29 = .ok (.getfield 68, 3) := by decide +kernel
theorem dX10_lastOf_32 : decode cX10_lastOf 32 = .ok (.iconst 3, 1) := by decide +kernel
theorem dX10_lastOf_33 : decode cX10_lastOf 33 = .ok (.iload 5, 2) := by decide +kernel
theorem dX10_lastOf_35 : decode cX10_lastOf 35 = .ok (.imul, 1) := by decide +kernel
theorem dX10_lastOf_36 : decode cX10_lastOf 36 = .ok (.iconst 1, 1) := by decide +kernel
theorem dX10_lastOf_37 : decode cX10_lastOf 37 = .ok (.iadd, 1) := by decide +kernel
theorem dX10_lastOf_38 : decode cX10_lastOf 38 = .ok (.iaload, 1) := by decide +kernel
theorem dX10_lastOf_39 : decode cX10_lastOf 39 = .ok (.iload_n 2, 1) := by decide +kernel
theorem dX10_lastOf_40 : decode cX10_lastOf 40 = .ok (.if_icmp .ne 17, 3) := by decide +kernel
theorem dX10_lastOf_43 : decode cX10_lastOf 43 = .ok (.aload_n 0, 1) := by decide +kernel
theorem dX10_lastOf_44 : decode cX10_lastOf 44 = .ok (.getfield 68, 3) := by decide +kernel
theorem dX10_lastOf_47 : decode cX10_lastOf 47 = .ok (.iconst 3, 1) := by decide +kernel
theorem dX10_lastOf_48 : decode cX10_lastOf 48 = .ok (.iload 5, 2) := by decide +kernel
theorem dX10_lastOf_50 : decode cX10_lastOf 50 = .ok (.imul, 1) := by decide +kernel
theorem dX10_lastOf_51 : decode cX10_lastOf 51 = .ok (.iconst 2, 1) := by decide +kernel
theorem dX10_lastOf_52 : decode cX10_lastOf 52 = .ok (.iadd, 1) := by decide +kernel
theorem dX10_lastOf_53 : decode cX10_lastOf 53 = .ok (.iaload, 1) := by decide +kernel
theorem dX10_lastOf_54 : decode cX10_lastOf 54 = .ok (.goto 5, 3) := by decide +kernel
theorem dX10_lastOf_57 : decode cX10_lastOf 57 = .ok (.iload 4, 2) := by decide +kernel
theorem dX10_lastOf_59 : decode cX10_lastOf 59 = .ok (.istore 4, 2) := by decide +kernel
theorem dX10_lastOf_61 : decode cX10_lastOf 61 = .ok (.iinc 5 1, 3) := by decide +kernel
theorem dX10_lastOf_64 : decode cX10_lastOf 64 = .ok (.goto (-58), 3) := by decide +kernel
theorem dX10_lastOf_67 : decode cX10_lastOf 67 = .ok (.iload 4, 2) := by decide +kernel
theorem dX10_lastOf_69 : decode cX10_lastOf 69 = .ok (.ireturn, 1) := by decide +kernel
theorem dX10_standIn_0 : decode cX10_standIn 0 = .ok (.iconst 0, 1) := by decide +kernel
theorem dX10_standIn_1 : decode cX10_standIn 1 = .ok (.istore_n 2, 1) := by decide +kernel
theorem dX10_standIn_2 : decode cX10_standIn 2 = .ok (.bipush 6, 2) := by decide +kernel
theorem dX10_standIn_4 : decode cX10_standIn 4 = .ok (.iload_n 1, 1) := by decide +kernel
theorem dX10_standIn_5 : decode cX10_standIn 5 = .ok (.imul, 1) := by decide +kernel
theorem dX10_standIn_6 : decode cX10_standIn 6 = .ok (.istore_n 3, 1) := by decide +kernel
theorem dX10_standIn_7 : decode cX10_standIn 7 = .ok (.iload_n 3, 1) := by decide +kernel
theorem dX10_standIn_8 : decode cX10_standIn 8 = .ok (.bipush 6, 2) := by decide +kernel
theorem dX10_standIn_10 : decode cX10_standIn 10 = .ok (.iload_n 1, 1) := by decide +kernel
theorem dX10_standIn_11 : decode cX10_standIn 11 = .ok (.imul, 1) := by decide +kernel
theorem dX10_standIn_12 : decode cX10_standIn 12 = .ok (.bipush 6, 2) := by decide +kernel
theorem dX10_standIn_14 : decode cX10_standIn 14 = .ok (.iadd, 1) := by decide +kernel
theorem dX10_standIn_15 : decode cX10_standIn 15 = .ok (.if_icmp .ge 27, 3) := by decide +kernel
theorem dX10_standIn_18 : decode cX10_standIn 18 = .ok (.iload_n 2, 1) := by decide +kernel
theorem dX10_standIn_19 : decode cX10_standIn 19 = .ok (.aload_n 0, 1) := by decide +kernel
theorem dX10_standIn_20 : decode cX10_standIn 20 = .ok (.getfield 32, 3) := by decide +kernel
theorem dX10_standIn_23 : decode cX10_standIn 23 = .ok (.iload_n 3, 1) := by decide +kernel
theorem dX10_standIn_24 : decode cX10_standIn 24 = .ok (.iaload, 1) := by decide +kernel
theorem dX10_standIn_25 : decode cX10_standIn 25 = .ok (.iconst (-1), 1) := by decide +kernel
theorem dX10_standIn_26 : decode cX10_standIn 26 = .ok (.if_icmp .ne 7, 3) := by decide +kernel
theorem dX10_standIn_29 : decode cX10_standIn 29 = .ok (.iconst 0, 1) := by decide +kernel
theorem dX10_standIn_30 : decode cX10_standIn 30 = .ok (.goto 4, 3) := by decide +kernel
theorem dX10_standIn_33 : decode cX10_standIn 33 = .ok (.iconst 1, 1) := by decide +kernel
theorem dX10_standIn_34 : decode cX10_standIn 34 = .ok (.iadd, 1) := by decide +kernel
theorem dX10_standIn_35 : decode cX10_standIn 35 = .ok (.istore_n 2, 1) := by decide +kernel
theorem dX10_standIn_36 : decode cX10_standIn 36 = .ok (.iinc 3 1, 3) := by decide +kernel
theorem dX10_standIn_39 : decode cX10_standIn 39 = .ok (.goto (-32), 3) := by decide +kernel
theorem dX10_standIn_42 : decode cX10_standIn 42 = .ok (.iload_n 2, 1) := by decide +kernel
theorem dX10_standIn_43 : decode cX10_standIn 43 = .ok (.ireturn, 1) := by decide +kernel
set_option maxRecDepth 20000 in
theorem ggX10_isTooLike_X10_likeness : GoodIn wsX10_isTooLike wsX10_likeness := goodIn_r _ [6, 7, 8, 9, 10, 11, 12, 13, 14, 15, 16, 17, 18, 19, 20, 21, 22, 23, 24, 25, 26, 27, 28, 29, 30, 31, 32, 33, 34, 35, 36, 37, 38, 39, 40, 41, 42, 43, 44, 45, 46] rfl (by decide +kernel)
set_option maxRecDepth 20000 in
theorem gX10_isTooLike_X10_likeness : GoodIn wsX10_isTooLike (wsV RX10 115 RX10 yX10_likeness wsX10_likeness) := goodIn_app (goodIn_of _ (by decide +kernel)) ggX10_isTooLike_X10_likeness
theorem dX10_isTooLike_0 : decode cX10_isTooLike 0 = .ok (.aload_n 0, 1) := by decide +kernel
theorem dX10_isTooLike_1 : decode cX10_isTooLike 1 = .ok (.getfield 32, 3) := by decide +kernel
theorem dX10_isTooLike_4 : decode cX10_isTooLike 4 = .ok (.iload_n 2, 1) := by decide +kernel
theorem dX10_isTooLike_5 : decode cX10_isTooLike 5 = .ok (.iaload, 1) := by decide +kernel
theorem dX10_isTooLike_6 : decode cX10_isTooLike 6 = .ok (.iconst (-1), 1) := by decide +kernel
theorem dX10_isTooLike_7 : decode cX10_isTooLike 7 = .ok (.if_icmp .eq 22, 3) := by decide +kernel
theorem dX10_isTooLike_10 : decode cX10_isTooLike 10 = .ok (.aload_n 0, 1) := by decide +kernel
theorem dX10_isTooLike_11 : decode cX10_isTooLike 11 = .ok (.aload_n 0, 1) := by decide +kernel
theorem dX10_isTooLike_12 : decode cX10_isTooLike 12 = .ok (.getfield 32, 3) := by decide +kernel
theorem dX10_isTooLike_15 : decode cX10_isTooLike 15 = .ok (.iload_n 2, 1) := by decide +kernel
theorem dX10_isTooLike_16 : decode cX10_isTooLike 16 = .ok (.iaload, 1) := by decide +kernel
theorem dX10_isTooLike_17 : decode cX10_isTooLike 17 = .ok (.iload_n 1, 1) := by decide +kernel
theorem dX10_isTooLike_18 : decode cX10_isTooLike 18 = .ok (.invokevirtual 115, 3) := by decide +kernel
theorem dX10_isTooLike_21 : decode cX10_isTooLike 21 = .ok (.iload_n 3, 1) := by decide +kernel
theorem dX10_isTooLike_22 : decode cX10_isTooLike 22 = .ok (.if_icmp .le 7, 3) := by decide +kernel
theorem dX10_isTooLike_25 : decode cX10_isTooLike 25 = .ok (.iconst 1, 1) := by decide +kernel
theorem dX10_isTooLike_26 : decode cX10_isTooLike 26 = .ok (.goto 4, 3) := by decide +kernel
theorem dX10_isTooLike_29 : decode cX10_isTooLike 29 = .ok (.iconst 0, 1) := by decide +kernel
theorem dX10_isTooLike_30 : decode cX10_isTooLike 30 = .ok (.ireturn, 1) := by decide +kernel
set_option maxRecDepth 20000 in
theorem ggX10_bars_X10_isThing : GoodIn wsX10_bars wsX10_isThing := goodIn_r _ [6, 7, 8, 5, 9] rfl (by decide +kernel)
set_option maxRecDepth 20000 in
theorem gX10_bars_X10_isThing : GoodIn wsX10_bars (va_wsS RX10 112 yX10_isThing wsX10_isThing) := goodIn_app (goodIn_of _ (by decide +kernel)) ggX10_bars_X10_isThing
set_option maxRecDepth 20000 in
theorem ggX10_bars_X10_isCorner : GoodIn wsX10_bars wsX10_isCorner := goodIn_r _ [12, 7, 8, 5, 9] rfl (by decide +kernel)
set_option maxRecDepth 20000 in
theorem gX10_bars_X10_isCorner : GoodIn wsX10_bars (va_wsS RX10 118 yX10_isCorner wsX10_isCorner) := goodIn_app (goodIn_of _ (by decide +kernel)) ggX10_bars_X10_isCorner
set_option maxRecDepth 20000 in
theorem ggX10_bars_X10_standIn : GoodIn wsX10_bars wsX10_standIn := goodIn_r _ [16, 17, 33, 34, 35, 36, 37, 38, 39, 40, 41, 42, 43, 44, 45, 46, 47, 48, 49, 50, 51, 52, 53, 54, 55, 56, 57, 58, 59, 60, 61, 62, 63, 64, 65, 66, 67, 68, 69, 70, 71] rfl (by decide +kernel)
set_option maxRecDepth 20000 in
theorem gX10_bars_X10_standIn : GoodIn wsX10_bars (wsV RX10 213 RX10 yX10_standIn wsX10_standIn) := goodIn_app (goodIn_of _ (by decide +kernel)) ggX10_bars_X10_standIn
set_option maxRecDepth 20000 in
theorem ggX10_bars_X10_lastOf : GoodIn wsX10_bars wsX10_lastOf := goodIn_r _ [21, 22, 23, 33, 34, 35, 36, 37, 38, 39, 40, 41, 42, 43, 44, 45, 46, 47, 48, 49, 50, 51, 52, 53, 54, 55, 56, 57, 58, 59, 60, 61, 62, 63, 64, 65, 66, 67, 68, 69, 70, 71] rfl (by decide +kernel)
set_option maxRecDepth 20000 in
theorem gX10_bars_X10_lastOf : GoodIn wsX10_bars (wsV RX10 216 RX10 yX10_lastOf wsX10_lastOf) := goodIn_app (goodIn_of _ (by decide +kernel)) ggX10_bars_X10_lastOf
set_option maxRecDepth 20000 in
theorem ggX10_bars_X10_isTooLike : GoodIn wsX10_bars wsX10_isTooLike := goodIn_r _ [27, 17, 28, 29, 30, 5, 31, 32, 33, 34, 35, 36, 37, 38, 39, 40, 41, 42, 43, 44, 45, 46, 47, 48, 49, 50, 51, 52, 53, 54, 55, 56, 57, 58, 59, 60, 61, 62, 63, 64, 65, 66, 67, 68, 69, 70, 71] rfl (by decide +kernel)
set_option maxRecDepth 20000 in
theorem gX10_bars_X10_isTooLike : GoodIn wsX10_bars (wsV RX10 220 RX10 yX10_isTooLike wsX10_isTooLike) := goodIn_app (goodIn_of _ (by decide +kernel)) ggX10_bars_X10_isTooLike
theorem dX10_bars_0 : decode cX10_bars 0 = .ok (.iload_n 1, 1) := by decide +kernel
theorem dX10_bars_1 : decode cX10_bars 1 = .ok (.invokestatic 112, 3) := by decide +kernel
theorem dX10_bars_4 : decode cX10_bars 4 = .ok (.ifCond .eq 10, 3) := by decide +kernel
theorem dX10_bars_7 : decode cX10_bars 7 = .ok (.iload_n 2, 1) := by decide +kernel
theorem dX10_bars_8 : decode cX10_bars 8 = .ok (.invokestatic 118, 3) := by decide +kernel
theorem dX10_bars_11 : decode cX10_bars 11 = .ok (.ifCond .ne 6, 3) := by decide +kernel
theorem dX10_bars_14 : decode cX10_bars 14 = .ok (.bipush (-2), 2) := by decide +kernel
theorem dX10_bars_16 : decode cX10_bars 16 = .ok (.ireturn, 1) := by decide +kernel
theorem dX10_bars_17 : decode cX10_bars 17 = .ok (.aload_n 0, 1) := by decide +kernel
theorem dX10_bars_18 : decode cX10_bars 18 = .ok (.iload_n 2, 1) := by decide +kernel
theorem dX10_bars_19 : decode cX10_bars 19 = .ok (.bipush 6, 2) := by decide +kernel
theorem dX10_bars_21 : decode cX10_bars 21 = .ok (.idiv, 1) := by decide +kernel
theorem dX10_bars_22 : decode cX10_bars 22 = .ok (.invokevirtual 213, 3) := by decide +kernel
theorem dX10_bars_25 : decode cX10_bars 25 = .ok (.aload_n 0, 1) := by decide +kernel
theorem dX10_bars_26 : decode cX10_bars 26 = .ok (.iconst 0, 1) := by decide +kernel
theorem dX10_bars_27 : decode cX10_bars 27 = .ok (.iload_n 2, 1) := by decide +kernel
theorem dX10_bars_28 : decode cX10_bars 28 = .ok (.bipush 6, 2) := by decide +kernel
theorem dX10_bars_30 : decode cX10_bars 30 = .ok (.idiv, 1) := by decide +kernel
theorem dX10_bars_31 : decode cX10_bars 31 = .ok (.bipush 100, 2) := by decide +kernel
theorem dX10_bars_33 : decode cX10_bars 33 = .ok (.invokevirtual 216, 3) := by decide +kernel
theorem dX10_bars_36 : decode cX10_bars 36 = .ok (.if_icmp .lt 7, 3) := by decide +kernel
theorem dX10_bars_39 : decode cX10_bars 39 = .ok (.iconst 1, 1) := by decide +kernel
theorem dX10_bars_40 : decode cX10_bars 40 = .ok (.goto 4, 3) := by decide +kernel
theorem dX10_bars_43 : decode cX10_bars 43 = .ok (.iconst 0, 1) := by decide +kernel
theorem dX10_bars_44 : decode cX10_bars 44 = .ok (.istore_n 3, 1) := by decide +kernel
theorem dX10_bars_45 : decode cX10_bars 45 = .ok (.aload_n 0, 1) := by decide +kernel
theorem dX10_bars_46 : decode cX10_bars 46 = .ok (.iconst 2, 1) := by decide +kernel
theorem dX10_bars_47 : decode cX10_bars 47 = .ok (.iconst 0, 1) := by decide +kernel
theorem dX10_bars_48 : decode cX10_bars 48 = .ok (.bipush 100, 2) := by decide +kernel
theorem dX10_bars_50 : decode cX10_bars 50 = .ok (.invokevirtual 216, 3) := by decide +kernel
theorem dX10_bars_53 : decode cX10_bars 53 = .ok (.istore 4, 2) := by decide +kernel
theorem dX10_bars_55 : decode cX10_bars 55 = .ok (.iload_n 3, 1) := by decide +kernel
theorem dX10_bars_56 : decode cX10_bars 56 = .ok (.aload_n 0, 1) := by decide +kernel
theorem dX10_bars_57 : decode cX10_bars 57 = .ok (.getfield 44, 3) := by decide +kernel
theorem dX10_bars_60 : decode cX10_bars 60 = .ok (.iload_n 2, 1) := by decide +kernel
theorem dX10_bars_61 : decode cX10_bars 61 = .ok (.iaload, 1) := by decide +kernel
theorem dX10_bars_62 : decode cX10_bars 62 = .ok (.iconst (-1), 1) := by decide +kernel
theorem dX10_bars_63 : decode cX10_bars 63 = .ok (.if_icmp .eq 28, 3) := by decide +kernel
theorem dX10_bars_66 : decode cX10_bars 66 = .ok (.aload_n 0, 1) := by decide +kernel
theorem dX10_bars_67 : decode cX10_bars 67 = .ok (.getfield 125, 3) := by decide +kernel
theorem dX10_bars_70 : decode cX10_bars 70 = .ok (.aload_n 0, 1) := by decide +kernel
theorem dX10_bars_71 : decode cX10_bars 71 = .ok (.getfield 44, 3) := by decide +kernel
theorem dX10_bars_74 : decode cX10_bars 74 = .ok (.iload_n 2, 1) := by decide +kernel
theorem dX10_bars_75 : decode cX10_bars 75 = .ok (.iaload, 1) := by decide +kernel
theorem dX10_bars_76 : decode cX10_bars 76 = .ok (.isub, 1) := by decide +kernel
theorem dX10_bars_77 : decode cX10_bars 77 = .ok (.aload_n 0, 1) := by decide +kernel
theorem dX10_bars_78 : decode cX10_bars 78 = .ok (.iconst 1, 1) := by decide +kernel
theorem dX10_bars_79 : decode cX10_bars 79 = .ok (.iconst 0, 1) := by decide +kernel
theorem dX10_bars_80 : decode cX10_bars 80 = .ok (.iconst 0, 1) := by decide +kernel
theorem dX10_bars_81 : decode cX10_bars 81 = .ok (.invokevirtual 216, 3) := by decide +kernel
theorem dX10_bars_84 : decode cX10_bars 84 = .ok (.if_icmp .ge 7, 3) := by decide +kernel
theorem dX10_bars_87 : decode cX10_bars 87 = .ok (.iconst 2, 1) := by decide +kernel
theorem dX10_bars_88 : decode cX10_bars 88 = .ok (.goto 4, 3) := by decide +kernel
theorem dX10_bars_91 : decode cX10_bars 91 = .ok (.iconst 0, 1) := by decide +kernel
theorem dX10_bars_92 : decode cX10_bars 92 = .ok (.iadd, 1) := by decide +kernel
theorem dX10_bars_93 : decode cX10_bars 93 = .ok (.istore_n 3, 1) := by decide +kernel
theorem dX10_bars_94 : decode cX10_bars 94 = .ok (.iload_n 2, 1) := by decide +kernel
theorem dX10_bars_95 : decode cX10_bars 95 = .ok (.bipush 6, 2) := by decide +kernel
theorem dX10_bars_97 : decode cX10_bars 97 = .ok (.irem, 1) := by decide +kernel
theorem dX10_bars_98 : decode cX10_bars 98 = .ok (.ifCond .le 16, 3) := by decide +kernel
theorem dX10_bars_101 : decode cX10_bars 101 = .ok (.aload_n 0, 1) := by decide +kernel
theorem dX10_bars_102 : decode cX10_bars 102 = .ok (.iload_n 1, 1) := by decide +kernel
theorem dX10_bars_103 : decode cX10_bars 103 = .ok (.iload_n 2, 1) := by decide +kernel
theorem dX10_bars_104 : decode cX10_bars 104 = .ok (.iconst 1, 1) := by decide +kernel
theorem dX10_bars_105 : decode cX10_bars 105 = .ok (.isub, 1) := by decide +kernel
theorem dX10_bars_106 : decode cX10_bars 106 = .ok (.iload 4, 2) := by decide +kernel
theorem dX10_bars_108 : decode cX10_bars 108 = .ok (.invokevirtual 220, 3) := by decide +kernel
theorem dX10_bars_111 : decode cX10_bars 111 = .ok (.ifCond .ne 24, 3) := by decide +kernel
theorem dX10_bars_114 : decode cX10_bars 114 = .ok (.iload_n 2, 1) := by decide +kernel
theorem dX10_bars_115 : decode cX10_bars 115 = .ok (.bipush 6, 2) := by decide +kernel
theorem dX10_bars_117 : decode cX10_bars 117 = .ok (.irem, 1) := by decide +kernel
theorem dX10_bars_118 : decode cX10_bars 118 = .ok (.iconst 5, 1) := by decide +kernel
theorem dX10_bars_119 : decode cX10_bars 119 = .ok (.if_icmp .ge 20, 3) := by decide +kernel
theorem dX10_bars_122 : decode cX10_bars 122 = .ok (.aload_n 0, 1) := by decide +kernel
theorem dX10_bars_123 : decode cX10_bars 123 = .ok (.iload_n 1, 1) := by decide +kernel
theorem dX10_bars_124 : decode cX10_bars 124 = .ok (.iload_n 2, 1) := by decide +kernel
theorem dX10_bars_125 : decode cX10_bars 125 = .ok (.iconst 1, 1) := by decide +kernel
theorem dX10_bars_126 : decode cX10_bars 126 = .ok (.iadd, 1) := by decide +kernel
theorem dX10_bars_127 : decode cX10_bars 127 = .ok (.iload 4, 2) := by decide +kernel
theorem dX10_bars_129 : decode cX10_bars 129 = .ok (.invokevirtual 220, 3) := by decide +kernel
theorem dX10_bars_132 : decode cX10_bars 132 = .ok (.ifCond .eq 7, 3) := by decide +kernel
theorem dX10_bars_135 : decode cX10_bars 135 = .ok (.iconst 1, 1) := by decide +kernel
theorem dX10_bars_136 : decode cX10_bars 136 = .ok (.goto 4, 3) := by decide +kernel
theorem dX10_bars_139 : decode cX10_bars 139 = .ok (.iconst 0, 1) := by decide +kernel
theorem dX10_bars_140 : decode cX10_bars 140 = .ok (.istore 5, 2) := by decide +kernel
theorem dX10_bars_142 : decode cX10_bars 142 = .ok (.iload_n 3, 1) := by decide +kernel
theorem dX10_bars_143 : decode cX10_bars 143 = .ok (.iload 5, 2) := by decide +kernel
theorem dX10_bars_145 : decode cX10_bars 145 = .ok (.ifCond .eq 7, 3) := by decide +kernel
theorem dX10_bars_148 : decode cX10_bars 148 = .ok (.iconst 4, 1) := by decide +kernel
theorem dX10_bars_149 : decode cX10_bars 149 = .ok (.goto 4, 3) := by decide +kernel
theorem dX10_bars_152 : decode cX10_bars 152 = .ok (.iconst 0, 1) := by decide +kernel
theorem dX10_bars_153 : decode cX10_bars 153 = .ok (.iadd, 1) := by decide +kernel
theorem dX10_bars_154 : decode cX10_bars 154 = .ok (.ireturn, 1) := by decide +kernel
set_option maxRecDepth 20000 in
theorem ggX10_due_X10_lastOf : GoodIn wsX10_due wsX10_lastOf := goodIn_r _ [7, 8, 9, 10, 11, 12, 13, 14, 15, 16, 17, 18, 19, 20, 21, 22, 23, 24, 25, 26, 27, 28, 29, 30, 31, 32, 33, 34, 35, 36, 37, 38, 39, 40, 41, 42, 43, 44, 45, 46, 47, 48] rfl (by decide +kernel)
set_option maxRecDepth 20000 in
theorem gX10_due_X10_lastOf : GoodIn wsX10_due (wsV RX10 216 RX10 yX10_lastOf wsX10_lastOf) := goodIn_app (goodIn_of _ (by decide +kernel)) ggX10_due_X10_lastOf
theorem dX10_due_0 : decode cX10_due 0 = .ok (.iconst 0, 1) := by decide +kernel
theorem dX10_due_1 : decode cX10_due 1 = .ok (.istore_n 1, 1) := by decide +kernel
theorem dX10_due_2 : decode cX10_due 2 = .ok (.iconst 0, 1) := by decide +kernel
theorem dX10_due_3 : decode cX10_due 3 = .ok (.istore_n 2, 1) := by decide +kernel
theorem dX10_due_4 : decode cX10_due 4 = .ok (.iload_n 2, 1) := by decide +kernel
theorem dX10_due_5 : decode cX10_due 5 = .ok (.bipush 8, 2) := by decide +kernel
theorem dX10_due_7 : decode cX10_due 7 = .ok (.if_icmp .ge 68, 3) := by decide +kernel
theorem dX10_due_10 : decode cX10_due 10 = .ok (.aload_n 0, 1) := by decide +kernel
theorem dX10_due_11 : decode cX10_due 11 = .ok (.iconst 3, 1) := by decide +kernel
theorem dX10_due_12 : decode cX10_due 12 = .ok (.iload_n 2, 1) := by decide +kernel
theorem dX10_due_13 : decode cX10_due 13 = .ok (.iconst 0, 1) := by decide +kernel
theorem dX10_due_14 : decode cX10_due 14 = .ok (.invokevirtual 216, 3) := by decide +kernel
theorem dX10_due_17 : decode cX10_due 17 = .ok (.istore_n 3, 1) := by decide +kernel
theorem dX10_due_18 : decode cX10_due 18 = .ok (.iload_n 3, 1) := by decide +kernel
theorem dX10_due_19 : decode cX10_due 19 = .ok (.ifCond .le 32, 3) := by decide +kernel
theorem dX10_due_22 : decode cX10_due 22 = .ok (.aload_n 0, 1) := by decide +kernel
theorem dX10_due_23 : decode cX10_due 23 = .ok (.getfield 47, 3) := by decide +kernel
theorem dX10_due_26 : decode cX10_due 26 = .ok (.iload_n 2, 1) := by decide +kernel
theorem dX10_due_27 : decode cX10_due 27 = .ok (.iaload, 1) := by decide +kernel
theorem dX10_due_28 : decode cX10_due 28 = .ok (.iconst (-1), 1) := by decide +kernel
theorem dX10_due_29 : decode cX10_due 29 = .ok (.if_icmp .eq 18, 3) := by decide +kernel
theorem dX10_due_32 : decode cX10_due 32 = .ok (.aload_n 0, 1) := by decide +kernel
theorem dX10_due_33 : decode cX10_due 33 = .ok (.getfield 125, 3) := by decide +kernel
theorem dX10_due_36 : decode cX10_due 36 = .ok (.aload_n 0, 1) := by decide +kernel
theorem dX10_due_37 : decode cX10_due 37 = .ok (.getfield 47, 3) := by decide +kernel
theorem dX10_due_40 : decode cX10_due 40 = .ok (.iload_n 2, 1) := by decide +kernel
theorem dX10_due_41 : decode cX10_due 41 = .ok (.iaload, 1) := by decide +kernel
theorem dX10_due_42 : decode cX10_due 42 = .ok (.isub, 1) := by decide +kernel
theorem dX10_due_43 : decode cX10_due 43 = .ok (.iload_n 3, 1) := by decide +kernel
theorem dX10_due_44 : decode cX10_due 44 = .ok (.if_icmp .lt 7, 3) := by decide +kernel
theorem dX10_due_47 : decode cX10_due 47 = .ok (.iconst 1, 1) := by decide +kernel
theorem dX10_due_48 : decode cX10_due 48 = .ok (.goto 4, 3) := by decide +kernel
theorem dX10_due_51 : decode cX10_due 51 = .ok (.iconst 0, 1) := by decide +kernel
theorem dX10_due_52 : decode cX10_due 52 = .ok (.istore 4, 2) := by decide +kernel
theorem dX10_due_54 : decode cX10_due 54 = .ok (.iload_n 1, 1) := by decide +kernel
theorem dX10_due_55 : decode cX10_due 55 = .ok (.iload 4, 2) := by decide +kernel
theorem dX10_due_57 : decode cX10_due 57 = .ok (.ifCond .eq 9, 3) := by decide +kernel
theorem dX10_due_60 : decode cX10_due 60 = .ok (.iconst 1, 1) := by decide +kernel
theorem dX10_due_61 : decode cX10_due 61 = .ok (.iload_n 2, 1) := by decide +kernel
theorem dX10_due_62 : decode cX10_due 62 = .ok (.ishl, 1) := by decide +kernel
theorem dX10_due_63 : decode cX10_due 63 = .ok (.goto 4, 3) := by decide +kernel
theorem dX10_due_66 : decode cX10_due 66 = .ok (.iconst 0, 1) := by decide +kernel
theorem dX10_due_67 : decode cX10_due 67 = .ok (.ior, 1) := by decide +kernel
theorem dX10_due_68 : decode cX10_due 68 = .ok (.istore_n 1, 1) := by decide +kernel
theorem dX10_due_69 : decode cX10_due 69 = .ok (.iinc 2 1, 3) := by decide +kernel
theorem dX10_due_72 : decode cX10_due 72 = .ok (.goto (-68), 3) := by decide +kernel
theorem dX10_due_75 : decode cX10_due 75 = .ok (.iload_n 1, 1) := by decide +kernel
theorem dX10_due_76 : decode cX10_due 76 = .ok (.ireturn, 1) := by decide +kernel
