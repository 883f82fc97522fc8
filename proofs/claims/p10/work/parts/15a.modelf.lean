theorem dX10_right_100 : decode cX10_right 100 = .ok (.iaload, 1) := by decide +kernel
theorem dX10_right_101 : decode cX10_right 101 = .ok (.iconst (-1), 1) := by decide +kernel
theorem dX10_right_102 : decode cX10_right 102 = .ok (.if_icmp .eq 37, 3) := by decide +kernel
theorem dX10_right_105 : decode cX10_right 105 = .ok (.aload_n 0, 1) := by decide +kernel
theorem dX10_right_106 : decode cX10_right 106 = .ok (.aload_n 0, 1) := by decide +kernel
theorem dX10_right_107 : decode cX10_right 107 = .ok (.getfield 32, 3) := by decide +kernel
theorem dX10_right_110 : decode cX10_right 110 = .ok (.iload 4, 2) := by decide +kernel
theorem dX10_right_112 : decode cX10_right 112 = .ok (.iaload, 1) := by decide +kernel
theorem dX10_right_113 : decode cX10_right 113 = .ok (.aload_n 0, 1) := by decide +kernel
theorem dX10_right_114 : decode cX10_right 114 = .ok (.getfield 32, 3) := by decide +kernel
theorem dX10_right_117 : decode cX10_right 117 = .ok (.iload_n 1, 1) := by decide +kernel
theorem dX10_right_118 : decode cX10_right 118 = .ok (.iaload, 1) := by decide +kernel
theorem dX10_right_119 : decode cX10_right 119 = .ok (.invokevirtual 115, 3) := by decide +kernel
theorem dX10_right_122 : decode cX10_right 122 = .ok (.aload_n 0, 1) := by decide +kernel
theorem dX10_right_123 : decode cX10_right 123 = .ok (.getfield 22, 3) := by decide +kernel
theorem dX10_right_126 : decode cX10_right 126 = .ok (.if_icmp .lt 13, 3) := by decide +kernel
theorem dX10_right_129 : decode cX10_right 129 = .ok (.aload_n 0, 1) := by decide +kernel
theorem dX10_right_130 : decode cX10_right 130 = .ok (.getfield 35, 3) := by decide +kernel
theorem dX10_right_133 : decode cX10_right 133 = .ok (.iload 4, 2) := by decide +kernel
theorem dX10_right_135 : decode cX10_right 135 = .ok (.iaload, 1) := by decide +kernel
theorem dX10_right_136 : decode cX10_right 136 = .ok (.goto 4, 3) := by decide +kernel
theorem dX10_right_139 : decode cX10_right 139 = .ok (.iconst 0, 1) := by decide +kernel
theorem dX10_right_140 : decode cX10_right 140 = .ok (.iadd, 1) := by decide +kernel
theorem dX10_right_141 : decode cX10_right 141 = .ok (.istore_n 3, 1) := by decide +kernel
theorem dX10_right_142 : decode cX10_right 142 = .ok (.iinc 4 1, 3) := by decide +kernel
theorem dX10_right_145 : decode cX10_right 145 = .ok (.goto (-73), 3) := by decide +kernel
theorem dX10_right_148 : decode cX10_right 148 = .ok (.iload_n 3, 1) := by decide +kernel
theorem dX10_right_149 : decode cX10_right 149 = .ok (.ifCond .ne 6, 3) := by decide +kernel
theorem dX10_right_152 : decode cX10_right 152 = .ok (.bipush (-4), 2) := by decide +kernel
theorem dX10_right_154 : decode cX10_right 154 = .ok (.ireturn, 1) := by decide +kernel
theorem dX10_right_155 : decode cX10_right 155 = .ok (.iload_n 3, 1) := by decide +kernel
theorem dX10_right_156 : decode cX10_right 156 = .ok (.istore 4, 2) := by decide +kernel
theorem dX10_right_158 : decode cX10_right 158 = .ok (.aload_n 0, 1) := by decide +kernel
theorem dX10_right_159 : decode cX10_right 159 = .ok (.getfield 35, 3) := by decide +kernel
theorem dX10_right_162 : decode cX10_right 162 = .ok (.iload_n 1, 1) := by decide +kernel
theorem dX10_right_163 : decode cX10_right 163 = .ok (.iaload, 1) := by decide +kernel
theorem dX10_right_164 : decode cX10_right 164 = .ok (.istore 5, 2) := by decide +kernel
theorem dX10_right_166 : decode cX10_right 166 = .ok (.iload 5, 2) := by decide +kernel
theorem dX10_right_168 : decode cX10_right 168 = .ok (.ifCond .eq 21, 3) := by decide +kernel
theorem dX10_right_171 : decode cX10_right 171 = .ok (.iload 4, 2) := by decide +kernel
theorem dX10_right_173 : decode cX10_right 173 = .ok (.iload 5, 2) := by decide +kernel
theorem dX10_right_175 : decode cX10_right 175 = .ok (.irem, 1) := by decide +kernel
theorem dX10_right_176 : decode cX10_right 176 = .ok (.istore 6, 2) := by decide +kernel
theorem dX10_right_178 : decode cX10_right 178 = .ok (.iload 5, 2) := by decide +kernel
theorem dX10_right_180 : decode cX10_right 180 = .ok (.istore 4, 2) := by decide +kernel
theorem dX10_right_182 : decode cX10_right 182 = .ok (.iload 6, 2) := by decide +kernel
theorem dX10_right_184 : decode cX10_right 184 = .ok (.istore 5, 2) := by decide +kernel
theorem dX10_right_186 : decode cX10_right 186 = .ok (.goto (-20), 3) := by decide +kernel
theorem dX10_right_189 : decode cX10_right 189 = .ok (.iload_n 2, 1) := by decide +kernel
theorem dX10_right_190 : decode cX10_right 190 = .ok (.ifCond .ne 15, 3) := by decide +kernel
theorem dX10_right_193 : decode cX10_right 193 = .ok (.aload_n 0, 1) := by decide +kernel
theorem dX10_right_194 : decode cX10_right 194 = .ok (.getfield 35, 3) := by decide +kernel
theorem dX10_right_197 : decode cX10_right 197 = .ok (.iload_n 1, 1) := by decide +kernel
theorem dX10_right_198 : decode cX10_right 198 = .ok (.iaload, 1) := by decide +kernel
theorem dX10_right_199 : decode cX10_right 199 = .ok (.iload 4, 2) := by decide +kernel
theorem dX10_right_201 : decode cX10_right 201 = .ok (.idiv, 1) := by decide +kernel
theorem dX10_right_202 : decode cX10_right 202 = .ok (.goto 7, 3) := by decide +kernel
theorem dX10_right_205 : decode cX10_right 205 = .ok (.iload_n 3, 1) := by decide +kernel
theorem dX10_right_206 : decode cX10_right 206 = .ok (.iload 4, 2) := by decide +kernel
theorem dX10_right_208 : decode cX10_right 208 = .ok (.idiv, 1) := by decide +kernel
theorem dX10_right_209 : decode cX10_right 209 = .ok (.ireturn, 1) := by decide +kernel
set_option maxRecDepth 20000 in
theorem ggX10_causes_X10_isCorner : GoodIn wsX10_causes wsX10_isCorner := goodIn_r _ [7, 8, 9, 6, 10] rfl (by decide +kernel)
set_option maxRecDepth 20000 in
theorem gX10_causes_X10_isCorner : GoodIn wsX10_causes (va_wsS RX10 118 yX10_isCorner wsX10_isCorner) := goodIn_app (goodIn_of _ (by decide +kernel)) ggX10_causes_X10_isCorner
set_option maxRecDepth 20000 in
theorem ggX10_causes_X10_isThing : GoodIn wsX10_causes wsX10_isThing := goodIn_r _ [13, 8, 9, 6, 10] rfl (by decide +kernel)
set_option maxRecDepth 20000 in
theorem gX10_causes_X10_isThing : GoodIn wsX10_causes (va_wsS RX10 112 yX10_isThing wsX10_isThing) := goodIn_app (goodIn_of _ (by decide +kernel)) ggX10_causes_X10_isThing
set_option maxRecDepth 20000 in
theorem ggX10_causes_X10_cornerOf : GoodIn wsX10_causes wsX10_cornerOf := goodIn_r _ [17, 1, 30, 31, 32, 33, 34, 35, 36, 37, 38, 39, 40, 41, 42, 43, 44, 45, 46, 47, 48, 49, 50, 51, 52, 53, 54, 55, 56, 57, 58, 59, 60, 61, 62, 63, 64, 65, 66, 67, 68] rfl (by decide +kernel)
set_option maxRecDepth 20000 in
theorem gX10_causes_X10_cornerOf : GoodIn wsX10_causes (wsV RX10 121 RX10 yX10_cornerOf wsX10_cornerOf) := goodIn_app (goodIn_of _ (by decide +kernel)) ggX10_causes_X10_cornerOf
set_option maxRecDepth 20000 in
theorem ggX10_causes_X10_likeness : GoodIn wsX10_causes wsX10_likeness := goodIn_r _ [21, 22, 30, 31, 32, 33, 34, 35, 36, 37, 38, 39, 40, 41, 42, 43, 44, 45, 46, 47, 48, 49, 50, 51, 52, 53, 54, 55, 56, 57, 58, 59, 60, 61, 62, 63, 64, 65, 66, 67, 68] rfl (by decide +kernel)
set_option maxRecDepth 20000 in
theorem gX10_causes_X10_likeness : GoodIn wsX10_causes (wsV RX10 115 RX10 yX10_likeness wsX10_likeness) := goodIn_app (goodIn_of _ (by decide +kernel)) ggX10_causes_X10_likeness
set_option maxRecDepth 20000 in
theorem ggX10_causes_X10_areJoined : GoodIn wsX10_causes wsX10_areJoined := goodIn_r _ [26, 27, 28, 29, 30, 31, 32, 33, 34, 35, 36, 37, 38, 39, 40, 41, 42, 43, 44, 45, 46, 47, 48, 49, 50, 51, 52, 53, 54, 55, 56, 57, 58, 59, 60, 61, 62, 63, 64, 65, 66, 67, 68] rfl (by decide +kernel)
set_option maxRecDepth 20000 in
theorem gX10_causes_X10_areJoined : GoodIn wsX10_causes (wsV RX10 104 RX10 yX10_areJoined wsX10_areJoined) := goodIn_app (goodIn_of _ (by decide +kernel)) ggX10_causes_X10_areJoined
theorem dX10_causes_0 : decode cX10_causes 0 = .ok (.iload_n 1, 1) := by decide +kernel
theorem dX10_causes_1 : decode cX10_causes 1 = .ok (.invokestatic 118, 3) := by decide +kernel
theorem dX10_causes_4 : decode cX10_causes 4 = .ok (.ifCond .eq 10, 3) := by decide +kernel
theorem dX10_causes_7 : decode cX10_causes 7 = .ok (.iload_n 2, 1) := by decide +kernel
theorem dX10_causes_8 : decode cX10_causes 8 = .ok (.invokestatic 112, 3) := by decide +kernel
theorem dX10_causes_11 : decode cX10_causes 11 = .ok (.ifCond .ne 6, 3) := by decide +kernel
theorem dX10_causes_14 : decode cX10_causes 14 = .ok (.bipush (-2), 2) := by decide +kernel
theorem dX10_causes_16 : decode cX10_causes 16 = .ok (.ireturn, 1) := by decide +kernel
theorem dX10_causes_17 : decode cX10_causes 17 = .ok (.aload_n 0, 1) := by decide +kernel
theorem dX10_causes_18 : decode cX10_causes 18 = .ok (.getfield 32, 3) := by decide +kernel
theorem dX10_causes_21 : decode cX10_causes 21 = .ok (.iload_n 1, 1) := by decide +kernel
theorem dX10_causes_22 : decode cX10_causes 22 = .ok (.iaload, 1) := by decide +kernel
theorem dX10_causes_23 : decode cX10_causes 23 = .ok (.iconst (-1), 1) := by decide +kernel
theorem dX10_causes_24 : decode cX10_causes 24 = .ok (.if_icmp .eq 13, 3) := by decide +kernel
theorem dX10_causes_27 : decode cX10_causes 27 = .ok (.aload_n 0, 1) := by decide +kernel
theorem dX10_causes_28 : decode cX10_causes 28 = .ok (.getfield 32, 3) := by decide +kernel
theorem dX10_causes_31 : decode cX10_causes 31 = .ok (.iload_n 1, 1) := by decide +kernel
theorem dX10_causes_32 : decode cX10_causes 32 = .ok (.iaload, 1) := by decide +kernel
theorem dX10_causes_33 : decode cX10_causes 33 = .ok (.iload_n 2, 1) := by decide +kernel
theorem dX10_causes_34 : decode cX10_causes 34 = .ok (.if_icmp .ne 6, 3) := by decide +kernel
theorem dX10_causes_37 : decode cX10_causes 37 = .ok (.bipush (-4), 2) := by decide +kernel
theorem dX10_causes_39 : decode cX10_causes 39 = .ok (.ireturn, 1) := by decide +kernel
theorem dX10_causes_40 : decode cX10_causes 40 = .ok (.aload_n 0, 1) := by decide +kernel
theorem dX10_causes_41 : decode cX10_causes 41 = .ok (.iload_n 2, 1) := by decide +kernel
theorem dX10_causes_42 : decode cX10_causes 42 = .ok (.invokevirtual 121, 3) := by decide +kernel
theorem dX10_causes_45 : decode cX10_causes 45 = .ok (.istore_n 3, 1) := by decide +kernel
theorem dX10_causes_46 : decode cX10_causes 46 = .ok (.aload_n 0, 1) := by decide +kernel
theorem dX10_causes_47 : decode cX10_causes 47 = .ok (.iload_n 2, 1) := by decide +kernel
theorem dX10_causes_48 : decode cX10_causes 48 = .ok (.aload_n 0, 1) := by decide +kernel
theorem dX10_causes_49 : decode cX10_causes 49 = .ok (.getfield 32, 3) := by decide +kernel
theorem dX10_causes_52 : decode cX10_causes 52 = .ok (.iload_n 1, 1) := by decide +kernel
theorem dX10_causes_53 : decode cX10_causes 53 = .ok (.iaload, 1) := by decide +kernel
theorem dX10_causes_54 : decode cX10_causes 54 = .ok (.invokevirtual 115, 3) := by decide +kernel
theorem dX10_causes_57 : decode cX10_causes 57 = .ok (.aload_n 0, 1) := by decide +kernel
theorem dX10_causes_58 : decode cX10_causes 58 = .ok (.getfield 22, 3) := by decide +kernel
theorem dX10_causes_61 : decode cX10_causes 61 = .ok (.if_icmp .lt 7, 3) := by decide +kernel
theorem dX10_causes_64 : decode cX10_causes 64 = .ok (.iconst 1, 1) := by decide +kernel
theorem dX10_causes_65 : decode cX10_causes 65 = .ok (.goto 4, 3) := by decide +kernel
theorem dX10_causes_68 : decode cX10_causes 68 = .ok (.iconst 0, 1) := by decide +kernel
theorem dX10_causes_69 : decode cX10_causes 69 = .ok (.istore 4, 2) := by decide +kernel
theorem dX10_causes_71 : decode cX10_causes 71 = .ok (.iload 4, 2) := by decide +kernel
theorem dX10_causes_73 : decode cX10_causes 73 = .ok (.aload_n 0, 1) := by decide +kernel
theorem dX10_causes_74 : decode cX10_causes 74 = .ok (.getfield 38, 3) := by decide +kernel
theorem dX10_causes_77 : decode cX10_causes 77 = .ok (.iload_n 1, 1) := by decide +kernel
theorem dX10_causes_78 : decode cX10_causes 78 = .ok (.iaload, 1) := by decide +kernel
theorem dX10_causes_79 : decode cX10_causes 79 = .ok (.iload_n 2, 1) := by decide +kernel
theorem dX10_causes_80 : decode cX10_causes 80 = .ok (.if_icmp .ne 7, 3) := by decide +kernel
theorem dX10_causes_83 : decode cX10_causes 83 = .ok (.iconst 2, 1) := by decide +kernel
theorem dX10_causes_84 : decode cX10_causes 84 = .ok (.goto 4, 3) := by decide +kernel
theorem dX10_causes_87 : decode cX10_causes 87 = .ok (.iconst 0, 1) := by decide +kernel
theorem dX10_causes_88 : decode cX10_causes 88 = .ok (.iadd, 1) := by decide +kernel
theorem dX10_causes_89 : decode cX10_causes 89 = .ok (.istore 4, 2) := by decide +kernel
theorem dX10_causes_91 : decode cX10_causes 91 = .ok (.iload 4, 2) := by decide +kernel
theorem dX10_causes_93 : decode cX10_causes 93 = .ok (.iload_n 3, 1) := by decide +kernel
theorem dX10_causes_94 : decode cX10_causes 94 = .ok (.iconst (-1), 1) := by decide +kernel
theorem dX10_causes_95 : decode cX10_causes 95 = .ok (.if_icmp .eq 33, 3) := by decide +kernel
theorem dX10_causes_98 : decode cX10_causes 98 = .ok (.iload_n 3, 1) := by decide +kernel
theorem dX10_causes_99 : decode cX10_causes 99 = .ok (.bipush 6, 2) := by decide +kernel
theorem dX10_causes_101 : decode cX10_causes 101 = .ok (.irem, 1) := by decide +kernel
theorem dX10_causes_102 : decode cX10_causes 102 = .ok (.iload_n 1, 1) := by decide +kernel
theorem dX10_causes_103 : decode cX10_causes 103 = .ok (.bipush 6, 2) := by decide +kernel
theorem dX10_causes_105 : decode cX10_causes 105 = .ok (.irem, 1) := by decide +kernel
theorem dX10_causes_106 : decode cX10_causes 106 = .ok (.if_icmp .ne 22, 3) := by decide +kernel
theorem dX10_causes_109 : decode cX10_causes 109 = .ok (.aload_n 0, 1) := by decide +kernel
theorem dX10_causes_110 : decode cX10_causes 110 = .ok (.iload_n 3, 1) := by decide +kernel
theorem dX10_causes_111 : decode cX10_causes 111 = .ok (.bipush 6, 2) := by decide +kernel
theorem dX10_causes_113 : decode cX10_causes 113 = .ok (.idiv, 1) := by decide +kernel
theorem dX10_causes_114 : decode cX10_causes 114 = .ok (.iload_n 1, 1) := by decide +kernel
theorem dX10_causes_115 : decode cX10_causes 115 = .ok (.bipush 6, 2) := by decide +kernel
theorem dX10_causes_117 : decode cX10_causes 117 = .ok (.idiv, 1) := by decide +kernel
theorem dX10_causes_118 : decode cX10_causes 118 = .ok (.invokevirtual 104, 3) := by decide +kernel
theorem dX10_causes_121 : decode cX10_causes 121 = .ok (.ifCond .eq 7, 3) := by decide +kernel
theorem dX10_causes_124 : decode cX10_causes 124 = .ok (.iconst 4, 1) := by decide +kernel
theorem dX10_causes_125 : decode cX10_causes 125 = .ok (.goto 4, 3) := by decide +kernel
theorem dX10_causes_128 : decode cX10_causes 128 = .ok (.iconst 0, 1) := by decide +kernel
theorem dX10_causes_129 : decode cX10_causes 129 = .ok (.iadd, 1) := by decide +kernel
theorem dX10_causes_130 : decode cX10_causes 130 = .ok (.ireturn, 1) := by decide +kernel
set_option maxRecDepth 20000 in
theorem ggX10_asked_X10_isThing : GoodIn wsX10_asked wsX10_isThing := goodIn_r _ [4, 5, 6, 3, 7] rfl (by decide +kernel)
set_option maxRecDepth 20000 in
theorem gX10_asked_X10_isThing : GoodIn wsX10_asked (va_wsS RX10 112 yX10_isThing wsX10_isThing) := goodIn_app (goodIn_of _ (by decide +kernel)) ggX10_asked_X10_isThing
set_option maxRecDepth 20000 in
theorem ggX10_asked_X10_isRoom : GoodIn wsX10_asked wsX10_isRoom := goodIn_r _ [10, 5, 6, 3, 7] rfl (by decide +kernel)
set_option maxRecDepth 20000 in
theorem gX10_asked_X10_isRoom : GoodIn wsX10_asked (va_wsS RX10 100 yX10_isRoom wsX10_isRoom) := goodIn_app (goodIn_of _ (by decide +kernel)) ggX10_asked_X10_isRoom
set_option maxRecDepth 20000 in
theorem ggX10_asked_X10_cornerOf : GoodIn wsX10_asked wsX10_cornerOf := goodIn_r _ [14, 15, 24, 25, 26, 27, 28, 29, 30, 31, 32, 33, 34, 35, 36, 37, 38, 39, 40, 41, 42, 43, 44, 45, 46, 47, 48, 49, 50, 51, 52, 53, 54, 55, 56, 57, 58, 59, 60, 61, 62] rfl (by decide +kernel)
set_option maxRecDepth 20000 in
theorem gX10_asked_X10_cornerOf : GoodIn wsX10_asked (wsV RX10 121 RX10 yX10_cornerOf wsX10_cornerOf) := goodIn_app (goodIn_of _ (by decide +kernel)) ggX10_asked_X10_cornerOf
set_option maxRecDepth 20000 in
theorem ggX10_asked_X10_doorsTo : GoodIn wsX10_asked wsX10_doorsTo := goodIn_r _ [19, 20, 21, 22, 23, 24, 25, 26, 27, 28, 29, 30, 31, 32, 33, 34, 35, 36, 37, 38, 39, 40, 41, 42, 43, 44, 45, 46, 47, 48, 49, 50, 51, 52, 53, 54, 55, 56, 57, 58, 59, 60, 61, 62] rfl (by decide +kernel)
set_option maxRecDepth 20000 in
theorem gX10_asked_X10_doorsTo : GoodIn wsX10_asked (wsV RX10 108 RX10 yX10_doorsTo wsX10_doorsTo) := goodIn_app (goodIn_of _ (by decide +kernel)) ggX10_asked_X10_doorsTo
theorem dX10_asked_0 : decode cX10_asked 0 = .ok (.iload_n 1, 1) := by decide +kernel
theorem dX10_asked_1 : decode cX10_asked 1 = .ok (.invokestatic 112, 3) := by decide +kernel
theorem dX10_asked_4 : decode cX10_asked 4 = .ok (.ifCond .eq 10, 3) := by decide +kernel
theorem dX10_asked_7 : decode cX10_asked 7 = .ok (.iload_n 2, 1) := by decide +kernel
theorem dX10_asked_8 : decode cX10_asked 8 = .ok (.invokestatic 100, 3) := by decide +kernel
theorem dX10_asked_11 : decode cX10_asked 11 = .ok (.ifCond .ne 6, 3) := by decide +kernel
theorem dX10_asked_14 : decode cX10_asked 14 = .ok (.bipush (-2), 2) := by decide +kernel
theorem dX10_asked_16 : decode cX10_asked 16 = .ok (.ireturn, 1) := by decide +kernel
theorem dX10_asked_17 : decode cX10_asked 17 = .ok (.aload_n 0, 1) := by decide +kernel
theorem dX10_asked_18 : decode cX10_asked 18 = .ok (.iload_n 1, 1) := by decide +kernel
theorem dX10_asked_19 : decode cX10_asked 19 = .ok (.invokevirtual 121, 3) := by decide +kernel
theorem dX10_asked_22 : decode cX10_asked 22 = .ok (.istore_n 3, 1) := by decide +kernel
theorem dX10_asked_23 : decode cX10_asked 23 = .ok (.iload_n 3, 1) := by decide +kernel
theorem dX10_asked_24 : decode cX10_asked 24 = .ok (.iconst (-1), 1) := by decide +kernel
theorem dX10_asked_25 : decode cX10_asked 25 = .ok (.if_icmp .ne 7, 3) := by decide +kernel
theorem dX10_asked_28 : decode cX10_asked 28 = .ok (.iconst (-1), 1) := by decide +kernel
theorem dX10_asked_29 : decode cX10_asked 29 = .ok (.goto 12, 3) := by decide +kernel
theorem dX10_asked_32 : decode cX10_asked 32 = .ok (.aload_n 0, 1) := by decide +kernel
theorem dX10_asked_33 : decode cX10_asked 33 = .ok (.iload_n 2, 1) := by decide +kernel
theorem dX10_asked_34 : decode cX10_asked 34 = .ok (.iload_n 3, 1) := by decide +kernel
theorem dX10_asked_35 : decode cX10_asked 35 = .ok (.bipush 6, 2) := by decide +kernel
theorem dX10_asked_37 : decode cX10_asked 37 = .ok (.idiv, 1) := by decide +kernel
theorem dX10_asked_38 : decode cX10_asked 38 = .ok (.invokevirtual 108, 3) := by decide +kernel
theorem dX10_asked_41 : decode cX10_asked 41 = .ok (.istore 4, 2) := by decide +kernel
theorem dX10_asked_43 : decode cX10_asked 43 = .ok (.iload 4, 2) := by decide +kernel
theorem dX10_asked_45 : decode cX10_asked 45 = .ok (.iconst (-1), 1) := by decide +kernel
theorem dX10_asked_46 : decode cX10_asked 46 = .ok (.if_icmp .ne 7, 3) := by decide +kernel
theorem dX10_asked_49 : decode cX10_asked 49 = .ok (.iconst (-1), 1) := by decide +kernel
theorem dX10_asked_50 : decode cX10_asked 50 = .ok (.goto 12, 3) := by decide +kernel
theorem dX10_asked_53 : decode cX10_asked 53 = .ok (.iload 4, 2) := by decide +kernel
theorem dX10_asked_55 : decode cX10_asked 55 = .ok (.iload_n 3, 1) := by decide +kernel
theorem dX10_asked_56 : decode cX10_asked 56 = .ok (.bipush 6, 2) := by decide +kernel
theorem dX10_asked_58 : decode cX10_asked 58 = .ok (.irem, 1) := by decide +kernel
theorem dX10_asked_59 : decode cX10_asked 59 = .ok (.iadd, 1) := by decide +kernel
theorem dX10_asked_60 : decode cX10_asked 60 = .ok (.iconst 1, 1) := by decide +kernel
theorem dX10_asked_61 : decode cX10_asked 61 = .ok (.iadd, 1) := by decide +kernel
theorem dX10_asked_62 : decode cX10_asked 62 = .ok (.ireturn, 1) := by decide +kernel
set_option maxRecDepth 20000 in
theorem ggX10_beside_X10_isThing : GoodIn wsX10_beside wsX10_isThing := goodIn_r _ [5, 6, 7, 4, 8] rfl (by decide +kernel)
set_option maxRecDepth 20000 in
theorem gX10_beside_X10_isThing : GoodIn wsX10_beside (va_wsS RX10 112 yX10_isThing wsX10_isThing) := goodIn_app (goodIn_of _ (by decide +kernel)) ggX10_beside_X10_isThing
