
theorem dX10_take_0 : decode cX10_take 0 = .ok (.iconst 0, 1) := by decide +kernel
theorem dX10_take_1 : decode cX10_take 1 = .ok (.istore 4, 2) := by decide +kernel
theorem dX10_take_3 : decode cX10_take 3 = .ok (.iconst 0, 1) := by decide +kernel
theorem dX10_take_4 : decode cX10_take 4 = .ok (.istore 5, 2) := by decide +kernel
theorem dX10_take_6 : decode cX10_take 6 = .ok (.iconst 0, 1) := by decide +kernel
theorem dX10_take_7 : decode cX10_take 7 = .ok (.istore 6, 2) := by decide +kernel
theorem dX10_take_9 : decode cX10_take 9 = .ok (.iload 6, 2) := by decide +kernel
theorem dX10_take_11 : decode cX10_take 11 = .ok (.iload_n 3, 1) := by decide +kernel
theorem dX10_take_12 : decode cX10_take 12 = .ok (.if_icmp .ge 84, 3) := by decide +kernel
theorem dX10_take_15 : decode cX10_take 15 = .ok (.aload_n 0, 1) := by decide +kernel
theorem dX10_take_16 : decode cX10_take 16 = .ok (.getfield 71, 3) := by decide +kernel
theorem dX10_take_19 : decode cX10_take 19 = .ok (.iload 6, 2) := by decide +kernel
theorem dX10_take_21 : decode cX10_take 21 = .ok (.lload_n 1, 1) := by decide +kernel
theorem dX10_take_22 : decode cX10_take 22 = .ok (.iconst 5, 1) := by decide +kernel
theorem dX10_take_23 : decode cX10_take 23 = .ok (.iload 6, 2) := by decide +kernel
theorem dX10_take_25 : decode cX10_take 25 = .ok (.imul, 1) := by decide +kernel
theorem dX10_take_26 : decode cX10_take 26 = .ok (.lshr, 1) := by decide +kernel
theorem dX10_take_27 : decode cX10_take 27 = .ok (.ldc2_w 223, 3) := by decide +kernel
theorem dX10_take_30 : decode cX10_take 30 = .ok (.land, 1) := by decide +kernel
theorem dX10_take_31 : decode cX10_take 31 = .ok (.l2i, 1) := by decide +kernel
theorem dX10_take_32 : decode cX10_take 32 = .ok (.iastore, 1) := by decide +kernel
theorem dX10_take_33 : decode cX10_take 33 = .ok (.aload_n 0, 1) := by decide +kernel
theorem dX10_take_34 : decode cX10_take 34 = .ok (.getfield 71, 3) := by decide +kernel
theorem dX10_take_37 : decode cX10_take 37 = .ok (.iload 6, 2) := by decide +kernel
theorem dX10_take_39 : decode cX10_take 39 = .ok (.iaload, 1) := by decide +kernel
theorem dX10_take_40 : decode cX10_take 40 = .ok (.bipush 23, 2) := by decide +kernel
theorem dX10_take_42 : decode cX10_take 42 = .ok (.if_icmp .le 6, 3) := by decide +kernel
theorem dX10_take_45 : decode cX10_take 45 = .ok (.bipush (-2), 2) := by decide +kernel
theorem dX10_take_47 : decode cX10_take 47 = .ok (.ireturn, 1) := by decide +kernel
theorem dX10_take_48 : decode cX10_take 48 = .ok (.iload 5, 2) := by decide +kernel
theorem dX10_take_50 : decode cX10_take 50 = .ok (.ifCond .ne 19, 3) := by decide +kernel
theorem dX10_take_53 : decode cX10_take 53 = .ok (.iload 4, 2) := by decide +kernel
theorem dX10_take_55 : decode cX10_take 55 = .ok (.aload_n 0, 1) := by decide +kernel
theorem dX10_take_56 : decode cX10_take 56 = .ok (.getfield 71, 3) := by decide +kernel
theorem dX10_take_59 : decode cX10_take 59 = .ok (.iload 6, 2) := by decide +kernel
theorem dX10_take_61 : decode cX10_take 61 = .ok (.iaload, 1) := by decide +kernel
theorem dX10_take_62 : decode cX10_take 62 = .ok (.ishr, 1) := by decide +kernel
theorem dX10_take_63 : decode cX10_take 63 = .ok (.iconst 1, 1) := by decide +kernel
theorem dX10_take_64 : decode cX10_take 64 = .ok (.iand, 1) := by decide +kernel
theorem dX10_take_65 : decode cX10_take 65 = .ok (.iconst 1, 1) := by decide +kernel
theorem dX10_take_66 : decode cX10_take 66 = .ok (.if_icmp .ne 7, 3) := by decide +kernel
theorem dX10_take_69 : decode cX10_take 69 = .ok (.iconst 1, 1) := by decide +kernel
theorem dX10_take_70 : decode cX10_take 70 = .ok (.goto 4, 3) := by decide +kernel
theorem dX10_take_73 : decode cX10_take 73 = .ok (.iconst 0, 1) := by decide +kernel
theorem dX10_take_74 : decode cX10_take 74 = .ok (.istore 5, 2) := by decide +kernel
theorem dX10_take_76 : decode cX10_take 76 = .ok (.iload 4, 2) := by decide +kernel
theorem dX10_take_78 : decode cX10_take 78 = .ok (.iconst 1, 1) := by decide +kernel
theorem dX10_take_79 : decode cX10_take 79 = .ok (.aload_n 0, 1) := by decide +kernel
theorem dX10_take_80 : decode cX10_take 80 = .ok (.getfield 71, 3) := by decide +kernel
theorem dX10_take_83 : decode cX10_take 83 = .ok (.iload 6, 2) := by decide +kernel
theorem dX10_take_85 : decode cX10_take 85 = .ok (.iaload, 1) := by decide +kernel
theorem dX10_take_86 : decode cX10_take 86 = .ok (.ishl, 1) := by decide +kernel
theorem dX10_take_87 : decode cX10_take 87 = .ok (.ior, 1) := by decide +kernel
theorem dX10_take_88 : decode cX10_take 88 = .ok (.istore 4, 2) := by decide +kernel
theorem dX10_take_90 : decode cX10_take 90 = .ok (.iinc 6 1, 3) := by decide +kernel
theorem dX10_take_93 : decode cX10_take 93 = .ok (.goto (-84), 3) := by decide +kernel
theorem dX10_take_96 : decode cX10_take 96 = .ok (.iload 5, 2) := by decide +kernel
theorem dX10_take_98 : decode cX10_take 98 = .ok (.ifCond .eq 8, 3) := by decide +kernel
theorem dX10_take_101 : decode cX10_take 101 = .ok (.bipush (-3), 2) := by decide +kernel
theorem dX10_take_103 : decode cX10_take 103 = .ok (.goto 4, 3) := by decide +kernel
theorem dX10_take_106 : decode cX10_take 106 = .ok (.iconst 1, 1) := by decide +kernel
theorem dX10_take_107 : decode cX10_take 107 = .ok (.ireturn, 1) := by decide +kernel
set_option maxRecDepth 20000 in
theorem ggX10_findOrder_X10_speechOf : GoodIn wsX10_findOrder wsX10_speechOf := goodIn_r _ [9, 4, 2, 10, 11, 12, 8, 13, 14, 20, 21, 22, 23, 24, 25, 26, 27, 28, 29, 30, 31, 32, 33, 34, 35, 36, 37, 38, 39, 40, 41, 42, 43, 44, 45, 46, 47, 48, 49, 50, 51, 52, 53, 54, 55, 56, 57, 58] rfl (by decide +kernel)
set_option maxRecDepth 20000 in
theorem gX10_findOrder_X10_speechOf : GoodIn wsX10_findOrder (wsV RX10 228 RX10 yX10_speechOf wsX10_speechOf) := goodIn_app (goodIn_of _ (by decide +kernel)) ggX10_findOrder_X10_speechOf
set_option maxRecDepth 20000 in
theorem ggX10_findOrder_X10_harmOf : GoodIn wsX10_findOrder wsX10_harmOf := goodIn_r _ [18, 4, 2, 19, 10, 11, 12, 8, 13, 14, 20, 21, 22, 23, 24, 25, 26, 27, 28, 29, 30, 31, 32, 33, 34, 35, 36, 37, 38, 39, 40, 41, 42, 43, 44, 45, 46, 47, 48, 49, 50, 51, 52, 53, 54, 55, 56, 57, 58] rfl (by decide +kernel)
set_option maxRecDepth 20000 in
theorem gX10_findOrder_X10_harmOf : GoodIn wsX10_findOrder (wsV RX10 231 RX10 yX10_harmOf wsX10_harmOf) := goodIn_app (goodIn_of _ (by decide +kernel)) ggX10_findOrder_X10_harmOf
theorem dX10_findOrder_0 : decode cX10_findOrder 0 = .ok (.aload_n 0, 1) := by decide +kernel
theorem dX10_findOrder_1 : decode cX10_findOrder 1 = .ok (.iconst (-1), 1) := by decide +kernel
theorem dX10_findOrder_2 : decode cX10_findOrder 2 = .ok (.putfield 225, 3) := by decide +kernel
theorem dX10_findOrder_5 : decode cX10_findOrder 5 = .ok (.iconst 0, 1) := by decide +kernel
theorem dX10_findOrder_6 : decode cX10_findOrder 6 = .ok (.istore_n 3, 1) := by decide +kernel
theorem dX10_findOrder_7 : decode cX10_findOrder 7 = .ok (.aload_n 0, 1) := by decide +kernel
theorem dX10_findOrder_8 : decode cX10_findOrder 8 = .ok (.getfield 74, 3) := by decide +kernel
theorem dX10_findOrder_11 : decode cX10_findOrder 11 = .ok (.iconst 0, 1) := by decide +kernel
theorem dX10_findOrder_12 : decode cX10_findOrder 12 = .ok (.iconst (-1), 1) := by decide +kernel
theorem dX10_findOrder_13 : decode cX10_findOrder 13 = .ok (.iastore, 1) := by decide +kernel
theorem dX10_findOrder_14 : decode cX10_findOrder 14 = .ok (.iload_n 3, 1) := by decide +kernel
theorem dX10_findOrder_15 : decode cX10_findOrder 15 = .ok (.ifCond .lt 184, 3) := by decide +kernel
theorem dX10_findOrder_18 : decode cX10_findOrder 18 = .ok (.aload_n 0, 1) := by decide +kernel
theorem dX10_findOrder_19 : decode cX10_findOrder 19 = .ok (.getfield 74, 3) := by decide +kernel
theorem dX10_findOrder_22 : decode cX10_findOrder 22 = .ok (.iload_n 3, 1) := by decide +kernel
theorem dX10_findOrder_23 : decode cX10_findOrder 23 = .ok (.dup2, 1) := by decide +kernel
theorem dX10_findOrder_24 : decode cX10_findOrder 24 = .ok (.iaload, 1) := by decide +kernel
theorem dX10_findOrder_25 : decode cX10_findOrder 25 = .ok (.iconst 1, 1) := by decide +kernel
theorem dX10_findOrder_26 : decode cX10_findOrder 26 = .ok (.iadd, 1) := by decide +kernel
theorem dX10_findOrder_27 : decode cX10_findOrder 27 = .ok (.iastore, 1) := by decide +kernel
theorem dX10_findOrder_28 : decode cX10_findOrder 28 = .ok (.iconst 1, 1) := by decide +kernel
theorem dX10_findOrder_29 : decode cX10_findOrder 29 = .ok (.istore 4, 2) := by decide +kernel
theorem dX10_findOrder_31 : decode cX10_findOrder 31 = .ok (.iconst 0, 1) := by decide +kernel
theorem dX10_findOrder_32 : decode cX10_findOrder 32 = .ok (.istore 5, 2) := by decide +kernel
theorem dX10_findOrder_34 : decode cX10_findOrder 34 = .ok (.iload 5, 2) := by decide +kernel
theorem dX10_findOrder_36 : decode cX10_findOrder 36 = .ok (.iload_n 3, 1) := by decide +kernel
theorem dX10_findOrder_37 : decode cX10_findOrder 37 = .ok (.if_icmp .ge 37, 3) := by decide +kernel
theorem dX10_findOrder_40 : decode cX10_findOrder 40 = .ok (.iload 4, 2) := by decide +kernel
theorem dX10_findOrder_42 : decode cX10_findOrder 42 = .ok (.ifCond .eq 23, 3) := by decide +kernel
theorem dX10_findOrder_45 : decode cX10_findOrder 45 = .ok (.aload_n 0, 1) := by decide +kernel
theorem dX10_findOrder_46 : decode cX10_findOrder 46 = .ok (.getfield 74, 3) := by decide +kernel
theorem dX10_findOrder_49 : decode cX10_findOrder 49 = .ok (.iload 5, 2) := by decide +kernel
theorem dX10_findOrder_51 : decode cX10_findOrder 51 = .ok (.iaload, 1) := by decide +kernel
theorem dX10_findOrder_52 : decode cX10_findOrder 52 = .ok (.aload_n 0, 1) := by decide +kernel
theorem dX10_findOrder_53 : decode cX10_findOrder 53 = .ok (.getfield 74, 3) := by decide +kernel
theorem dX10_findOrder_56 : decode cX10_findOrder 56 = .ok (.iload_n 3, 1) := by decide +kernel
theorem dX10_findOrder_57 : decode cX10_findOrder 57 = .ok (.iaload, 1) := by decide +kernel
theorem dX10_findOrder_58 : decode cX10_findOrder 58 = .ok (.if_icmp .eq 7, 3) := by decide +kernel
theorem dX10_findOrder_61 : decode cX10_findOrder 61 = .ok (.iconst 1, 1) := by decide +kernel
theorem dX10_findOrder_62 : decode cX10_findOrder 62 = .ok (.goto 4, 3) := by decide +kernel
theorem dX10_findOrder_65 : decode cX10_findOrder 65 = .ok (.iconst 0, 1) := by decide +kernel
theorem dX10_findOrder_66 : decode cX10_findOrder 66 = .ok (.istore 4, 2) := by decide +kernel
theorem dX10_findOrder_68 : decode cX10_findOrder 68 = .ok (.iinc 5 1, 3) := by decide +kernel
theorem dX10_findOrder_71 : decode cX10_findOrder 71 = .ok (.goto (-37), 3) := by decide +kernel
theorem dX10_findOrder_74 : decode cX10_findOrder 74 = .ok (.aload_n 0, 1) := by decide +kernel
theorem dX10_findOrder_75 : decode cX10_findOrder 75 = .ok (.getfield 74, 3) := by decide +kernel
theorem dX10_findOrder_78 : decode cX10_findOrder 78 = .ok (.iload_n 3, 1) := by decide +kernel
theorem dX10_findOrder_79 : decode cX10_findOrder 79 = .ok (.iaload, 1) := by decide +kernel
theorem dX10_findOrder_80 : decode cX10_findOrder 80 = .ok (.iload_n 1, 1) := by decide +kernel
theorem dX10_findOrder_81 : decode cX10_findOrder 81 = .ok (.if_icmp .ne 9, 3) := by decide +kernel
theorem dX10_findOrder_84 : decode cX10_findOrder 84 = .ok (.iinc 3 (-1), 3) := by decide +kernel
theorem dX10_findOrder_87 : decode cX10_findOrder 87 = .ok (.goto 109, 3) := by decide +kernel
theorem dX10_findOrder_90 : decode cX10_findOrder 90 = .ok (.iload 4, 2) := by decide +kernel
theorem dX10_findOrder_92 : decode cX10_findOrder 92 = .ok (.ifCond .eq 89, 3) := by decide +kernel
theorem dX10_findOrder_95 : decode cX10_findOrder 95 = .ok (.iload_n 3, 1) := by decide +kernel
theorem dX10_findOrder_96 : decode cX10_findOrder 96 = .ok (.iload_n 1, 1) := by decide +kernel
theorem dX10_findOrder_97 : decode cX10_findOrder 97 = .ok (.iconst 1, 1) := by decide +kernel
theorem dX10_findOrder_98 : decode cX10_findOrder 98 = .ok (.isub, 1) := by decide +kernel
theorem dX10_findOrder_99 : decode cX10_findOrder 99 = .ok (.if_icmp .ne 82, 3) := by decide +kernel
theorem dX10_findOrder_102 : decode cX10_findOrder 102 = .ok (.iload_n 2, 1) := by decide +kernel
theorem dX10_findOrder_103 : decode cX10_findOrder 103 = .ok (.ifCond .eq 11, 3) := by decide +kernel
theorem dX10_findOrder_106 : decode cX10_findOrder 106 = .ok (.aload_n 0, 1) := by decide +kernel
theorem dX10_findOrder_107 : decode cX10_findOrder 107 = .ok (.iload_n 1, 1) := by decide +kernel
theorem dX10_findOrder_108 : decode cX10_findOrder 108 = .ok (.invokevirtual 228, 3) := by decide +kernel
theorem dX10_findOrder_111 : decode cX10_findOrder 111 = .ok (.goto 8, 3) := by decide +kernel
theorem dX10_findOrder_114 : decode cX10_findOrder 114 = .ok (.aload_n 0, 1) := by decide +kernel
theorem dX10_findOrder_115 : decode cX10_findOrder 115 = .ok (.iload_n 1, 1) := by decide +kernel
theorem dX10_findOrder_116 : decode cX10_findOrder 116 = .ok (.invokevirtual 231, 3) := by decide +kernel
theorem dX10_findOrder_119 : decode cX10_findOrder 119 = .ok (.istore 5, 2) := by decide +kernel
theorem dX10_findOrder_121 : decode cX10_findOrder 121 = .ok (.aload_n 0, 1) := by decide +kernel
theorem dX10_findOrder_122 : decode cX10_findOrder 122 = .ok (.getfield 225, 3) := by decide +kernel
theorem dX10_findOrder_125 : decode cX10_findOrder 125 = .ok (.iconst (-1), 1) := by decide +kernel
theorem dX10_findOrder_126 : decode cX10_findOrder 126 = .ok (.if_icmp .eq 12, 3) := by decide +kernel
theorem dX10_findOrder_129 : decode cX10_findOrder 129 = .ok (.iload 5, 2) := by decide +kernel
theorem dX10_findOrder_131 : decode cX10_findOrder 131 = .ok (.aload_n 0, 1) := by decide +kernel
theorem dX10_findOrder_132 : decode cX10_findOrder 132 = .ok (.getfield 225, 3) := by decide +kernel
theorem dX10_findOrder_135 : decode cX10_findOrder 135 = .ok (.if_icmp .ge 43, 3) := by decide +kernel
theorem dX10_findOrder_138 : decode cX10_findOrder 138 = .ok (.aload_n 0, 1) := by decide +kernel
theorem dX10_findOrder_139 : decode cX10_findOrder 139 = .ok (.iload 5, 2) := by decide +kernel
theorem dX10_findOrder_141 : decode cX10_findOrder 141 = .ok (.putfield 225, 3) := by decide +kernel
theorem dX10_findOrder_144 : decode cX10_findOrder 144 = .ok (.iconst 0, 1) := by decide +kernel
theorem dX10_findOrder_145 : decode cX10_findOrder 145 = .ok (.istore 6, 2) := by decide +kernel
theorem dX10_findOrder_147 : decode cX10_findOrder 147 = .ok (.iload 6, 2) := by decide +kernel
theorem dX10_findOrder_149 : decode cX10_findOrder 149 = .ok (.iload_n 1, 1) := by decide +kernel
theorem dX10_findOrder_150 : decode cX10_findOrder 150 = .ok (.if_icmp .ge 28, 3) := by decide +kernel
theorem dX10_findOrder_153 : decode cX10_findOrder 153 = .ok (.aload_n 0, 1) := by decide +kernel
theorem dX10_findOrder_154 : decode cX10_findOrder 154 = .ok (.getfield 77, 3) := by decide +kernel
theorem dX10_findOrder_157 : decode cX10_findOrder 157 = .ok (.iload 6, 2) := by decide +kernel
theorem dX10_findOrder_159 : decode cX10_findOrder 159 = .ok (.aload_n 0, 1) := by decide +kernel
theorem dX10_findOrder_160 : decode cX10_findOrder 160 = .ok (.getfield 71, 3) := by decide +kernel
theorem dX10_findOrder_163 : decode cX10_findOrder 163 = .ok (.aload_n 0, 1) := by decide +kernel
theorem dX10_findOrder_164 : decode cX10_findOrder 164 = .ok (.getfield 74, 3) := by decide +kernel
theorem dX10_findOrder_167 : decode cX10_findOrder 167 = .ok (.iload 6, 2) := by decide +kernel
theorem dX10_findOrder_169 : decode cX10_findOrder 169 = .ok (.iaload, 1) := by decide +kernel
theorem dX10_findOrder_170 : decode cX10_findOrder 170 = .ok (.iaload, 1) := by decide +kernel
theorem dX10_findOrder_171 : decode cX10_findOrder 171 = .ok (.iastore, 1) := by decide +kernel
theorem dX10_findOrder_172 : decode cX10_findOrder 172 = .ok (.iinc 6 1, 3) := by decide +kernel
theorem dX10_findOrder_175 : decode cX10_findOrder 175 = .ok (.goto (-28), 3) := by decide +kernel
theorem dX10_findOrder_178 : decode cX10_findOrder 178 = .ok (.goto 18, 3) := by decide +kernel
theorem dX10_findOrder_181 : decode cX10_findOrder 181 = .ok (.iload 4, 2) := by decide +kernel
theorem dX10_findOrder_183 : decode cX10_findOrder 183 = .ok (.ifCond .eq 13, 3) := by decide +kernel
theorem dX10_findOrder_186 : decode cX10_findOrder 186 = .ok (.iinc 3 1, 3) := by decide +kernel
theorem dX10_findOrder_189 : decode cX10_findOrder 189 = .ok (.aload_n 0, 1) := by decide +kernel
theorem dX10_findOrder_190 : decode cX10_findOrder 190 = .ok (.getfield 74, 3) := by decide +kernel
theorem dX10_findOrder_193 : decode cX10_findOrder 193 = .ok (.iload_n 3, 1) := by decide +kernel
theorem dX10_findOrder_194 : decode cX10_findOrder 194 = .ok (.iconst (-1), 1) := by decide +kernel
theorem dX10_findOrder_195 : decode cX10_findOrder 195 = .ok (.iastore, 1) := by decide +kernel
theorem dX10_findOrder_196 : decode cX10_findOrder 196 = .ok (.goto (-182), 3) := by decide +kernel
theorem dX10_findOrder_199 : decode cX10_findOrder 199 = .ok (.return_, 1) := by decide +kernel
set_option maxRecDepth 20000 in
theorem ggX10_speechOf_X10_likeness : GoodIn wsX10_speechOf wsX10_likeness := goodIn_r _ [7, 8, 9, 10, 11, 12, 13, 14, 15, 16, 17, 18, 19, 20, 21, 22, 23, 24, 25, 26, 27, 28, 29, 30, 31, 32, 33, 34, 35, 36, 37, 38, 39, 40, 41, 42, 43, 44, 45, 46, 47] rfl (by decide +kernel)
set_option maxRecDepth 20000 in
theorem gX10_speechOf_X10_likeness : GoodIn wsX10_speechOf (wsV RX10 115 RX10 yX10_likeness wsX10_likeness) := goodIn_app (goodIn_of _ (by decide +kernel)) ggX10_speechOf_X10_likeness
theorem dX10_speechOf_0 : decode cX10_speechOf 0 = .ok (.iconst 0, 1) := by decide +kernel
theorem dX10_speechOf_1 : decode cX10_speechOf 1 = .ok (.istore_n 2, 1) := by decide +kernel
theorem dX10_speechOf_2 : decode cX10_speechOf 2 = .ok (.iconst 1, 1) := by decide +kernel
theorem dX10_speechOf_3 : decode cX10_speechOf 3 = .ok (.istore_n 3, 1) := by decide +kernel
theorem dX10_speechOf_4 : decode cX10_speechOf 4 = .ok (.iload_n 3, 1) := by decide +kernel
theorem dX10_speechOf_5 : decode cX10_speechOf 5 = .ok (.iload_n 1, 1) := by decide +kernel
theorem dX10_speechOf_6 : decode cX10_speechOf 6 = .ok (.if_icmp .ge 40, 3) := by decide +kernel
theorem dX10_speechOf_9 : decode cX10_speechOf 9 = .ok (.iload_n 2, 1) := by decide +kernel
theorem dX10_speechOf_10 : decode cX10_speechOf 10 = .ok (.aload_n 0, 1) := by decide +kernel
theorem dX10_speechOf_11 : decode cX10_speechOf 11 = .ok (.aload_n 0, 1) := by decide +kernel
theorem dX10_speechOf_12 : decode cX10_speechOf 12 = .ok (.getfield 71, 3) := by decide +kernel
theorem dX10_speechOf_15 : decode cX10_speechOf 15 = .ok (.aload_n 0, 1) := by decide +kernel
theorem dX10_speechOf_16 : decode cX10_speechOf 16 = .ok (.getfield 74, 3) := by decide +kernel
theorem dX10_speechOf_19 : decode cX10_speechOf 19 = .ok (.iload_n 3, 1) := by decide +kernel
theorem dX10_speechOf_20 : decode cX10_speechOf 20 = .ok (.iconst 1, 1) := by decide +kernel
theorem dX10_speechOf_21 : decode cX10_speechOf 21 = .ok (.isub, 1) := by decide +kernel
theorem dX10_speechOf_22 : decode cX10_speechOf 22 = .ok (.iaload, 1) := by decide +kernel
theorem dX10_speechOf_23 : decode cX10_speechOf 23 = .ok (.iaload, 1) := by decide +kernel
theorem dX10_speechOf_24 : decode cX10_speechOf 24 = .ok (.aload_n 0, 1) := by decide +kernel
theorem dX10_speechOf_25 : decode cX10_speechOf 25 = .ok (.getfield 71, 3) := by decide +kernel
theorem dX10_speechOf_28 : decode cX10_speechOf 28 = .ok (.aload_n 0, 1) := by decide +kernel
theorem dX10_speechOf_29 : decode cX10_speechOf 29 = .ok (.getfield 74, 3) := by decide +kernel
theorem dX10_speechOf_32 : decode cX10_speechOf 32 = .ok (.iload_n 3, 1) := by decide +kernel
theorem dX10_speechOf_33 : decode cX10_speechOf 33 = .ok (.iaload, 1) := by decide +kernel
theorem dX10_speechOf_34 : decode cX10_speechOf 34 = .ok (.iaload, 1) := by decide +kernel
theorem dX10_speechOf_35 : decode cX10_speechOf 35 = .ok (.invokevirtual 115, 3) := by decide +kernel
theorem dX10_speechOf_38 : decode cX10_speechOf 38 = .ok (.iadd, 1) := by decide +kernel
theorem dX10_speechOf_39 : decode cX10_speechOf 39 = .ok (.istore_n 2, 1) := by decide +kernel
theorem dX10_speechOf_40 : decode cX10_speechOf 40 = .ok (.iinc 3 1, 3) := by decide +kernel
theorem dX10_speechOf_43 : decode cX10_speechOf 43 = .ok (.goto (-39), 3) := by decide +kernel
theorem dX10_speechOf_46 : decode cX10_speechOf 46 = .ok (.iload_n 2, 1) := by decide +kernel
theorem dX10_speechOf_47 : decode cX10_speechOf 47 = .ok (.ireturn, 1) := by decide +kernel
set_option maxRecDepth 20000 in
theorem ggX10_harmOf_X10_likeness : GoodIn wsX10_harmOf wsX10_likeness := goodIn_r _ [8, 9, 10, 11, 12, 13, 14, 15, 16, 17, 18, 19, 20, 21, 22, 23, 24, 25, 26, 27, 28, 29, 30, 31, 32, 33, 34, 35, 36, 37, 38, 39, 40, 41, 42, 43, 44, 45, 46, 47, 48] rfl (by decide +kernel)
set_option maxRecDepth 20000 in
theorem gX10_harmOf_X10_likeness : GoodIn wsX10_harmOf (wsV RX10 115 RX10 yX10_likeness wsX10_likeness) := goodIn_app (goodIn_of _ (by decide +kernel)) ggX10_harmOf_X10_likeness
theorem dX10_harmOf_0 : decode cX10_harmOf 0 = .ok (.iconst 0, 1) := by decide +kernel
theorem dX10_harmOf_1 : decode cX10_harmOf 1 = .ok (.istore_n 2, 1) := by decide +kernel
theorem dX10_harmOf_2 : decode cX10_harmOf 2 = .ok (.iconst 0, 1) := by decide +kernel
theorem dX10_harmOf_3 : decode cX10_harmOf 3 = .ok (.istore_n 3, 1) := by decide +kernel
theorem dX10_harmOf_4 : decode cX10_harmOf 4 = .ok (.iload_n 3, 1) := by decide +kernel
theorem dX10_harmOf_5 : decode cX10_harmOf 5 = .ok (.iload_n 1, 1) := by decide +kernel
theorem dX10_harmOf_6 : decode cX10_harmOf 6 = .ok (.if_icmp .ge 67, 3) := by decide +kernel
theorem dX10_harmOf_9 : decode cX10_harmOf 9 = .ok (.iconst 0, 1) := by decide +kernel
theorem dX10_harmOf_10 : decode cX10_harmOf 10 = .ok (.istore 4, 2) := by decide +kernel
theorem dX10_harmOf_12 : decode cX10_harmOf 12 = .ok (.iload 4, 2) := by decide +kernel
theorem dX10_harmOf_14 : decode cX10_harmOf 14 = .ok (.iload_n 3, 1) := by decide +kernel
theorem dX10_harmOf_15 : decode cX10_harmOf 15 = .ok (.if_icmp .ge 52, 3) := by decide +kernel
theorem dX10_harmOf_18 : decode cX10_harmOf 18 = .ok (.iload_n 2, 1) := by decide +kernel
theorem dX10_harmOf_19 : decode cX10_harmOf 19 = .ok (.aload_n 0, 1) := by decide +kernel
theorem dX10_harmOf_20 : decode cX10_harmOf 20 = .ok (.aload_n 0, 1) := by decide +kernel
theorem dX10_harmOf_21 : decode cX10_harmOf 21 = .ok (.getfield 71, 3) := by decide +kernel
theorem dX10_harmOf_24 : decode cX10_harmOf 24 = .ok (.aload_n 0, 1) := by decide +kernel
theorem dX10_harmOf_25 : decode cX10_harmOf 25 = .ok (.getfield 74, 3) := by decide +kernel
theorem dX10_harmOf_28 : decode cX10_harmOf 28 = .ok (.iload_n 3, 1) := by decide +kernel
theorem dX10_harmOf_29 : decode cX10_harmOf 29 = .ok (.iaload, 1) := by decide +kernel
theorem dX10_harmOf_30 : decode cX10_harmOf 30 = .ok (.iaload, 1) := by decide +kernel
theorem dX10_harmOf_31 : decode cX10_harmOf 31 = .ok (.aload_n 0, 1) := by decide +kernel
theorem dX10_harmOf_32 : decode cX10_harmOf 32 = .ok (.getfield 71, 3) := by decide +kernel
theorem dX10_harmOf_35 : decode cX10_harmOf 35 = .ok (.aload_n 0, 1) := by decide +kernel
theorem dX10_harmOf_36 : decode cX10_harmOf 36 = .ok (.getfield 74, 3) := by decide +kernel
theorem dX10_harmOf_39 : decode cX10_harmOf 39 = .ok (.iload 4, 2) := by decide +kernel
theorem dX10_harmOf_41 : decode cX10_harmOf 41 = .ok (.iaload, 1) := by decide +kernel
theorem dX10_harmOf_42 : decode cX10_harmOf 42 = .ok (.iaload, 1) := by decide +kernel
theorem dX10_harmOf_43 : decode cX10_harmOf 43 = .ok (.invokevirtual 115, 3) := by decide +kernel
theorem dX10_harmOf_46 : decode cX10_harmOf 46 = .ok (.aload_n 0, 1) := by decide +kernel
theorem dX10_harmOf_47 : decode cX10_harmOf 47 = .ok (.getfield 90, 3) := by decide +kernel
theorem dX10_harmOf_50 : decode cX10_harmOf 50 = .ok (.bipush 10, 2) := by decide +kernel
theorem dX10_harmOf_52 : decode cX10_harmOf 52 = .ok (.iload_n 3, 1) := by decide +kernel
theorem dX10_harmOf_53 : decode cX10_harmOf 53 = .ok (.imul, 1) := by decide +kernel
theorem dX10_harmOf_54 : decode cX10_harmOf 54 = .ok (.iload 4, 2) := by decide +kernel
theorem dX10_harmOf_56 : decode cX10_harmOf 56 = .ok (.iadd, 1) := by decide +kernel
theorem dX10_harmOf_57 : decode cX10_harmOf 57 = .ok (.iaload, 1) := by decide +kernel
theorem dX10_harmOf_58 : decode cX10_harmOf 58 = .ok (.imul, 1) := by decide +kernel
theorem dX10_harmOf_59 : decode cX10_harmOf 59 = .ok (.iadd, 1) := by decide +kernel
theorem dX10_harmOf_60 : decode cX10_harmOf 60 = .ok (.istore_n 2, 1) := by decide +kernel
theorem dX10_harmOf_61 : decode cX10_harmOf 61 = .ok (.iinc 4 1, 3) := by decide +kernel
theorem dX10_harmOf_64 : decode cX10_harmOf 64 = .ok (.goto (-52), 3) := by decide +kernel
theorem dX10_harmOf_67 : decode cX10_harmOf 67 = .ok (.iinc 3 1, 3) := by decide +kernel
theorem dX10_harmOf_70 : decode cX10_harmOf 70 = .ok (.goto (-66), 3) := by decide +kernel
theorem dX10_harmOf_73 : decode cX10_harmOf 73 = .ok (.iload_n 2, 1) := by decide +kernel
theorem dX10_harmOf_74 : decode cX10_harmOf 74 = .ok (.ireturn, 1) := by decide +kernel
set_option maxRecDepth 20000 in
theorem ggX10_laid_X10_in : GoodIn wsX10_laid wsX10_in := goodIn_r _ [7] rfl (by decide +kernel)
set_option maxRecDepth 20000 in
theorem gX10_laid_X10_in : GoodIn wsX10_laid (va_wsS RX10 93 yX10_in wsX10_in) := goodIn_app (goodIn_of _ (by decide +kernel)) ggX10_laid_X10_in
set_option maxRecDepth 20000 in
theorem ggX10_laid_X10_take : GoodIn wsX10_laid wsX10_take := goodIn_r _ [11, 1, 12, 32, 33, 34, 35, 36, 37, 38, 39, 40, 41, 42, 43, 44, 45, 46, 47, 48, 49, 50, 51, 52, 53, 54, 55, 56, 57, 58, 59, 60, 61, 62, 63, 64, 65, 66, 67, 68, 69, 70] rfl (by decide +kernel)
set_option maxRecDepth 20000 in
theorem gX10_laid_X10_take : GoodIn wsX10_laid (wsV RX10 234 RX10 yX10_take wsX10_take) := goodIn_app (goodIn_of _ (by decide +kernel)) ggX10_laid_X10_take
set_option maxRecDepth 20000 in
theorem ggX10_laid_X10_findOrder : GoodIn wsX10_laid wsX10_findOrder := goodIn_r _ [16, 2, 17, 3, 1, 18, 19, 20, 6, 21, 22, 23, 24, 25, 26, 27, 28, 29, 30, 31, 32, 33, 34, 35, 36, 37, 38, 39, 40, 41, 42, 43, 44, 45, 46, 47, 48, 49, 50, 51, 52, 53, 54, 55, 56, 57, 58, 59, 60, 61, 62, 63, 64, 65, 66, 67, 68, 69, 70] rfl (by decide +kernel)
set_option maxRecDepth 20000 in
theorem gX10_laid_X10_findOrder : GoodIn wsX10_laid (wsV RX10 238 RX10 yX10_findOrder wsX10_findOrder) := goodIn_app (goodIn_of _ (by decide +kernel)) ggX10_laid_X10_findOrder
theorem dX10_laid_0 : decode cX10_laid 0 = .ok (.iload_n 3, 1) := by decide +kernel
theorem dX10_laid_1 : decode cX10_laid 1 = .ok (.iconst 1, 1) := by decide +kernel
theorem dX10_laid_2 : decode cX10_laid 2 = .ok (.bipush 8, 2) := by decide +kernel
theorem dX10_laid_4 : decode cX10_laid 4 = .ok (.invokestatic 93, 3) := by decide +kernel
theorem dX10_laid_7 : decode cX10_laid 7 = .ok (.ifCond .ne 6, 3) := by decide +kernel
theorem dX10_laid_10 : decode cX10_laid 10 = .ok (.bipush (-3), 2) := by decide +kernel
theorem dX10_laid_12 : decode cX10_laid 12 = .ok (.ireturn, 1) := by decide +kernel
theorem dX10_laid_13 : decode cX10_laid 13 = .ok (.aload_n 0, 1) := by decide +kernel
theorem dX10_laid_14 : decode cX10_laid 14 = .ok (.lload_n 1, 1) := by decide +kernel
theorem dX10_laid_15 : decode cX10_laid 15 = .ok (.iload_n 3, 1) := by decide +kernel
theorem dX10_laid_16 : decode cX10_laid 16 = .ok (.invokevirtual 234, 3) := by decide +kernel
theorem dX10_laid_19 : decode cX10_laid 19 = .ok (.istore 5, 2) := by decide +kernel
theorem dX10_laid_21 : decode cX10_laid 21 = .ok (.iload 5, 2) := by decide +kernel
theorem dX10_laid_23 : decode cX10_laid 23 = .ok (.iconst 1, 1) := by decide +kernel
theorem dX10_laid_24 : decode cX10_laid 24 = .ok (.if_icmp .eq 6, 3) := by decide +kernel
theorem dX10_laid_27 : decode cX10_laid 27 = .ok (.iload 5, 2) := by decide +kernel
theorem dX10_laid_29 : decode cX10_laid 29 = .ok (.ireturn, 1) := by decide +kernel
theorem dX10_laid_30 : decode cX10_laid 30 = .ok (.iload 4, 2) := by decide +kernel
theorem dX10_laid_32 : decode cX10_laid 32 = .ok (.iconst (-1), 1) := by decide +kernel
theorem dX10_laid_33 : decode cX10_laid 33 = .ok (.if_icmp .ge 6, 3) := by decide +kernel
theorem dX10_laid_36 : decode cX10_laid 36 = .ok (.bipush (-3), 2) := by decide +kernel
theorem dX10_laid_38 : decode cX10_laid 38 = .ok (.ireturn, 1) := by decide +kernel
theorem dX10_laid_39 : decode cX10_laid 39 = .ok (.iconst 0, 1) := by decide +kernel
theorem dX10_laid_40 : decode cX10_laid 40 = .ok (.istore 6, 2) := by decide +kernel
theorem dX10_laid_42 : decode cX10_laid 42 = .ok (.iload 6, 2) := by decide +kernel
theorem dX10_laid_44 : decode cX10_laid 44 = .ok (.iload_n 3, 1) := by decide +kernel
theorem dX10_laid_45 : decode cX10_laid 45 = .ok (.if_icmp .ge 97, 3) := by decide +kernel
theorem dX10_laid_48 : decode cX10_laid 48 = .ok (.iload 6, 2) := by decide +kernel
theorem dX10_laid_50 : decode cX10_laid 50 = .ok (.iconst 1, 1) := by decide +kernel
theorem dX10_laid_51 : decode cX10_laid 51 = .ok (.iadd, 1) := by decide +kernel
theorem dX10_laid_52 : decode cX10_laid 52 = .ok (.istore 7, 2) := by decide +kernel
theorem dX10_laid_54 : decode cX10_laid 54 = .ok (.iload 7, 2) := by decide +kernel
theorem dX10_laid_56 : decode cX10_laid 56 = .ok (.iload_n 3, 1) := by decide +kernel
theorem dX10_laid_57 : decode cX10_laid 57 = .ok (.if_icmp .ge 79, 3) := by decide +kernel
theorem dX10_laid_60 : decode cX10_laid 60 = .ok (.aload_n 0, 1) := by decide +kernel
theorem dX10_laid_61 : decode cX10_laid 61 = .ok (.getfield 71, 3) := by decide +kernel
theorem dX10_laid_64 : decode cX10_laid 64 = .ok (.iload 6, 2) := by decide +kernel
theorem dX10_laid_66 : decode cX10_laid 66 = .ok (.iaload, 1) := by decide +kernel
theorem dX10_laid_67 : decode cX10_laid 67 = .ok (.aload_n 0, 1) := by decide +kernel
theorem dX10_laid_68 : decode cX10_laid 68 = .ok (.getfield 71, 3) := by decide +kernel
theorem dX10_laid_71 : decode cX10_laid 71 = .ok (.iload 7, 2) := by decide +kernel
theorem dX10_laid_73 : decode cX10_laid 73 = .ok (.iaload, 1) := by decide +kernel
theorem dX10_laid_74 : decode cX10_laid 74 = .ok (.if_icmp .ge 13, 3) := by decide +kernel
theorem dX10_laid_77 : decode cX10_laid 77 = .ok (.aload_n 0, 1) := by decide +kernel
