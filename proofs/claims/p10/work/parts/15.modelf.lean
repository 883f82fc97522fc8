
theorem dX10_init_0 : decode cX10_init 0 = .ok (.aload_n 0, 1) := by decide +kernel
theorem dX10_init_1 : decode cX10_init 1 = .ok (.invokespecial 1, 3) := by decide +kernel
theorem dX10_init_4 : decode cX10_init 4 = .ok (.aload_n 0, 1) := by decide +kernel
theorem dX10_init_5 : decode cX10_init 5 = .ok (.bipush 14, 2) := by decide +kernel
theorem dX10_init_7 : decode cX10_init 7 = .ok (.newarray .int, 2) := by decide +kernel
theorem dX10_init_9 : decode cX10_init 9 = .ok (.putfield 7, 3) := by decide +kernel
theorem dX10_init_12 : decode cX10_init 12 = .ok (.aload_n 0, 1) := by decide +kernel
theorem dX10_init_13 : decode cX10_init 13 = .ok (.bipush 14, 2) := by decide +kernel
theorem dX10_init_15 : decode cX10_init 15 = .ok (.newarray .int, 2) := by decide +kernel
theorem dX10_init_17 : decode cX10_init 17 = .ok (.putfield 13, 3) := by decide +kernel
theorem dX10_init_20 : decode cX10_init 20 = .ok (.aload_n 0, 1) := by decide +kernel
theorem dX10_init_21 : decode cX10_init 21 = .ok (.bipush 8, 2) := by decide +kernel
theorem dX10_init_23 : decode cX10_init 23 = .ok (.newarray .int, 2) := by decide +kernel
theorem dX10_init_25 : decode cX10_init 25 = .ok (.putfield 16, 3) := by decide +kernel
theorem dX10_init_28 : decode cX10_init 28 = .ok (.aload_n 0, 1) := by decide +kernel
theorem dX10_init_29 : decode cX10_init 29 = .ok (.bipush 24, 2) := by decide +kernel
theorem dX10_init_31 : decode cX10_init 31 = .ok (.newarray .int, 2) := by decide +kernel
theorem dX10_init_33 : decode cX10_init 33 = .ok (.putfield 19, 3) := by decide +kernel
theorem dX10_init_36 : decode cX10_init 36 = .ok (.aload_n 0, 1) := by decide +kernel
theorem dX10_init_37 : decode cX10_init 37 = .ok (.iconst 4, 1) := by decide +kernel
theorem dX10_init_38 : decode cX10_init 38 = .ok (.putfield 22, 3) := by decide +kernel
theorem dX10_init_41 : decode cX10_init 41 = .ok (.aload_n 0, 1) := by decide +kernel
theorem dX10_init_42 : decode cX10_init 42 = .ok (.bipush 50, 2) := by decide +kernel
theorem dX10_init_44 : decode cX10_init 44 = .ok (.putfield 26, 3) := by decide +kernel
theorem dX10_init_47 : decode cX10_init 47 = .ok (.aload_n 0, 1) := by decide +kernel
theorem dX10_init_48 : decode cX10_init 48 = .ok (.bipush 11, 2) := by decide +kernel
theorem dX10_init_50 : decode cX10_init 50 = .ok (.newarray .int, 2) := by decide +kernel
theorem dX10_init_52 : decode cX10_init 52 = .ok (.putfield 29, 3) := by decide +kernel
theorem dX10_init_55 : decode cX10_init 55 = .ok (.aload_n 0, 1) := by decide +kernel
theorem dX10_init_56 : decode cX10_init 56 = .ok (.bipush 48, 2) := by decide +kernel
theorem dX10_init_58 : decode cX10_init 58 = .ok (.newarray .int, 2) := by decide +kernel
theorem dX10_init_60 : decode cX10_init 60 = .ok (.putfield 32, 3) := by decide +kernel
theorem dX10_init_63 : decode cX10_init 63 = .ok (.aload_n 0, 1) := by decide +kernel
theorem dX10_init_64 : decode cX10_init 64 = .ok (.bipush 48, 2) := by decide +kernel
theorem dX10_init_66 : decode cX10_init 66 = .ok (.newarray .int, 2) := by decide +kernel
theorem dX10_init_68 : decode cX10_init 68 = .ok (.putfield 35, 3) := by decide +kernel
theorem dX10_init_71 : decode cX10_init 71 = .ok (.aload_n 0, 1) := by decide +kernel
theorem dX10_init_72 : decode cX10_init 72 = .ok (.bipush 48, 2) := by decide +kernel
theorem dX10_init_74 : decode cX10_init 74 = .ok (.newarray .int, 2) := by decide +kernel
theorem dX10_init_76 : decode cX10_init 76 = .ok (.putfield 38, 3) := by decide +kernel
theorem dX10_init_79 : decode cX10_init 79 = .ok (.aload_n 0, 1) := by decide +kernel
theorem dX10_init_80 : decode cX10_init 80 = .ok (.bipush 48, 2) := by decide +kernel
theorem dX10_init_82 : decode cX10_init 82 = .ok (.newarray .int, 2) := by decide +kernel
theorem dX10_init_84 : decode cX10_init 84 = .ok (.putfield 41, 3) := by decide +kernel
theorem dX10_init_87 : decode cX10_init 87 = .ok (.aload_n 0, 1) := by decide +kernel
theorem dX10_init_88 : decode cX10_init 88 = .ok (.bipush 48, 2) := by decide +kernel
theorem dX10_init_90 : decode cX10_init 90 = .ok (.newarray .int, 2) := by decide +kernel
theorem dX10_init_92 : decode cX10_init 92 = .ok (.putfield 44, 3) := by decide +kernel
theorem dX10_init_95 : decode cX10_init 95 = .ok (.aload_n 0, 1) := by decide +kernel
theorem dX10_init_96 : decode cX10_init 96 = .ok (.bipush 8, 2) := by decide +kernel
theorem dX10_init_98 : decode cX10_init 98 = .ok (.newarray .int, 2) := by decide +kernel
theorem dX10_init_100 : decode cX10_init 100 = .ok (.putfield 47, 3) := by decide +kernel
theorem dX10_init_103 : decode cX10_init 103 = .ok (.aload_n 0, 1) := by decide +kernel
theorem dX10_init_104 : decode cX10_init 104 = .ok (.sipush 240, 3) := by decide +kernel
theorem dX10_init_107 : decode cX10_init 107 = .ok (.newarray .int, 2) := by decide +kernel
theorem dX10_init_109 : decode cX10_init 109 = .ok (.putfield 50, 3) := by decide +kernel
theorem dX10_init_112 : decode cX10_init 112 = .ok (.aload_n 0, 1) := by decide +kernel
theorem dX10_init_113 : decode cX10_init 113 = .ok (.sipush 240, 3) := by decide +kernel
theorem dX10_init_116 : decode cX10_init 116 = .ok (.newarray .int, 2) := by decide +kernel
theorem dX10_init_118 : decode cX10_init 118 = .ok (.putfield 53, 3) := by decide +kernel
theorem dX10_init_121 : decode cX10_init 121 = .ok (.aload_n 0, 1) := by decide +kernel
theorem dX10_init_122 : decode cX10_init 122 = .ok (.iconst 5, 1) := by decide +kernel
theorem dX10_init_123 : decode cX10_init 123 = .ok (.newarray .int, 2) := by decide +kernel
theorem dX10_init_125 : decode cX10_init 125 = .ok (.putfield 56, 3) := by decide +kernel
theorem dX10_init_128 : decode cX10_init 128 = .ok (.aload_n 0, 1) := by decide +kernel
theorem dX10_init_129 : decode cX10_init 129 = .ok (.iconst 4, 1) := by decide +kernel
theorem dX10_init_130 : decode cX10_init 130 = .ok (.newarray .int, 2) := by decide +kernel
theorem dX10_init_132 : decode cX10_init 132 = .ok (.putfield 59, 3) := by decide +kernel
theorem dX10_init_135 : decode cX10_init 135 = .ok (.aload_n 0, 1) := by decide +kernel
theorem dX10_init_136 : decode cX10_init 136 = .ok (.sipush 160, 3) := by decide +kernel
theorem dX10_init_139 : decode cX10_init 139 = .ok (.newarray .int, 2) := by decide +kernel
theorem dX10_init_141 : decode cX10_init 141 = .ok (.putfield 62, 3) := by decide +kernel
theorem dX10_init_144 : decode cX10_init 144 = .ok (.aload_n 0, 1) := by decide +kernel
theorem dX10_init_145 : decode cX10_init 145 = .ok (.bipush 30, 2) := by decide +kernel
theorem dX10_init_147 : decode cX10_init 147 = .ok (.newarray .int, 2) := by decide +kernel
theorem dX10_init_149 : decode cX10_init 149 = .ok (.putfield 65, 3) := by decide +kernel
theorem dX10_init_152 : decode cX10_init 152 = .ok (.aload_n 0, 1) := by decide +kernel
theorem dX10_init_153 : decode cX10_init 153 = .ok (.bipush 30, 2) := by decide +kernel
theorem dX10_init_155 : decode cX10_init 155 = .ok (.newarray .int, 2) := by decide +kernel
theorem dX10_init_157 : decode cX10_init 157 = .ok (.putfield 68, 3) := by decide +kernel
theorem dX10_init_160 : decode cX10_init 160 = .ok (.aload_n 0, 1) := by decide +kernel
theorem dX10_init_161 : decode cX10_init 161 = .ok (.bipush 8, 2) := by decide +kernel
theorem dX10_init_163 : decode cX10_init 163 = .ok (.newarray .int, 2) := by decide +kernel
theorem dX10_init_165 : decode cX10_init 165 = .ok (.putfield 71, 3) := by decide +kernel
theorem dX10_init_168 : decode cX10_init 168 = .ok (.aload_n 0, 1) := by decide +kernel
theorem dX10_init_169 : decode cX10_init 169 = .ok (.bipush 8, 2) := by decide +kernel
theorem dX10_init_171 : decode cX10_init 171 = .ok (.newarray .int, 2) := by decide +kernel
theorem dX10_init_173 : decode cX10_init 173 = .ok (.putfield 74, 3) := by decide +kernel
theorem dX10_init_176 : decode cX10_init 176 = .ok (.aload_n 0, 1) := by decide +kernel
theorem dX10_init_177 : decode cX10_init 177 = .ok (.bipush 8, 2) := by decide +kernel
theorem dX10_init_179 : decode cX10_init 179 = .ok (.newarray .int, 2) := by decide +kernel
theorem dX10_init_181 : decode cX10_init 181 = .ok (.putfield 77, 3) := by decide +kernel
theorem dX10_init_184 : decode cX10_init 184 = .ok (.aload_n 0, 1) := by decide +kernel
theorem dX10_init_185 : decode cX10_init 185 = .ok (.iconst 4, 1) := by decide +kernel
theorem dX10_init_186 : decode cX10_init 186 = .ok (.newarray .int, 2) := by decide +kernel
theorem dX10_init_188 : decode cX10_init 188 = .ok (.putfield 80, 3) := by decide +kernel
theorem dX10_init_191 : decode cX10_init 191 = .ok (.aload_n 0, 1) := by decide +kernel
theorem dX10_init_192 : decode cX10_init 192 = .ok (.bipush 48, 2) := by decide +kernel
theorem dX10_init_194 : decode cX10_init 194 = .ok (.newarray .int, 2) := by decide +kernel
theorem dX10_init_196 : decode cX10_init 196 = .ok (.putfield 83, 3) := by decide +kernel
theorem dX10_init_199 : decode cX10_init 199 = .ok (.aload_n 0, 1) := by decide +kernel
theorem dX10_init_200 : decode cX10_init 200 = .ok (.bipush 48, 2) := by decide +kernel
theorem dX10_init_202 : decode cX10_init 202 = .ok (.newarray .boolean, 2) := by decide +kernel
theorem dX10_init_204 : decode cX10_init 204 = .ok (.putfield 86, 3) := by decide +kernel
theorem dX10_init_207 : decode cX10_init 207 = .ok (.aload_n 0, 1) := by decide +kernel
theorem dX10_init_208 : decode cX10_init 208 = .ok (.bipush 100, 2) := by decide +kernel
theorem dX10_init_210 : decode cX10_init 210 = .ok (.newarray .int, 2) := by decide +kernel
theorem dX10_init_212 : decode cX10_init 212 = .ok (.putfield 90, 3) := by decide +kernel
theorem dX10_init_215 : decode cX10_init 215 = .ok (.iconst 0, 1) := by decide +kernel
theorem dX10_init_216 : decode cX10_init 216 = .ok (.istore_n 1, 1) := by decide +kernel
theorem dX10_init_217 : decode cX10_init 217 = .ok (.iload_n 1, 1) := by decide +kernel
theorem dX10_init_218 : decode cX10_init 218 = .ok (.bipush 11, 2) := by decide +kernel
theorem dX10_init_220 : decode cX10_init 220 = .ok (.if_icmp .ge 16, 3) := by decide +kernel
theorem dX10_init_223 : decode cX10_init 223 = .ok (.aload_n 0, 1) := by decide +kernel
theorem dX10_init_224 : decode cX10_init 224 = .ok (.getfield 29, 3) := by decide +kernel
theorem dX10_init_227 : decode cX10_init 227 = .ok (.iload_n 1, 1) := by decide +kernel
theorem dX10_init_228 : decode cX10_init 228 = .ok (.iconst 5, 1) := by decide +kernel
theorem dX10_init_229 : decode cX10_init 229 = .ok (.iastore, 1) := by decide +kernel
theorem dX10_init_230 : decode cX10_init 230 = .ok (.iinc 1 1, 3) := by decide +kernel
theorem dX10_init_233 : decode cX10_init 233 = .ok (.goto (-16), 3) := by decide +kernel
theorem dX10_init_236 : decode cX10_init 236 = .ok (.iconst 0, 1) := by decide +kernel
theorem dX10_init_237 : decode cX10_init 237 = .ok (.istore_n 1, 1) := by decide +kernel
theorem dX10_init_238 : decode cX10_init 238 = .ok (.iload_n 1, 1) := by decide +kernel
theorem dX10_init_239 : decode cX10_init 239 = .ok (.bipush 48, 2) := by decide +kernel
theorem dX10_init_241 : decode cX10_init 241 = .ok (.if_icmp .ge 30, 3) := by decide +kernel
theorem dX10_init_244 : decode cX10_init 244 = .ok (.aload_n 0, 1) := by decide +kernel
theorem dX10_init_245 : decode cX10_init 245 = .ok (.getfield 32, 3) := by decide +kernel
theorem dX10_init_248 : decode cX10_init 248 = .ok (.iload_n 1, 1) := by decide +kernel
theorem dX10_init_249 : decode cX10_init 249 = .ok (.iconst (-1), 1) := by decide +kernel
theorem dX10_init_250 : decode cX10_init 250 = .ok (.iastore, 1) := by decide +kernel
theorem dX10_init_251 : decode cX10_init 251 = .ok (.aload_n 0, 1) := by decide +kernel
theorem dX10_init_252 : decode cX10_init 252 = .ok (.getfield 38, 3) := by decide +kernel
theorem dX10_init_255 : decode cX10_init 255 = .ok (.iload_n 1, 1) := by decide +kernel
theorem dX10_init_256 : decode cX10_init 256 = .ok (.iconst (-1), 1) := by decide +kernel
theorem dX10_init_257 : decode cX10_init 257 = .ok (.iastore, 1) := by decide +kernel
theorem dX10_init_258 : decode cX10_init 258 = .ok (.aload_n 0, 1) := by decide +kernel
theorem dX10_init_259 : decode cX10_init 259 = .ok (.getfield 44, 3) := by decide +kernel
theorem dX10_init_262 : decode cX10_init 262 = .ok (.iload_n 1, 1) := by decide +kernel
theorem dX10_init_263 : decode cX10_init 263 = .ok (.iconst (-1), 1) := by decide +kernel
theorem dX10_init_264 : decode cX10_init 264 = .ok (.iastore, 1) := by decide +kernel
theorem dX10_init_265 : decode cX10_init 265 = .ok (.iinc 1 1, 3) := by decide +kernel
theorem dX10_init_268 : decode cX10_init 268 = .ok (.goto (-30), 3) := by decide +kernel
theorem dX10_init_271 : decode cX10_init 271 = .ok (.iconst 0, 1) := by decide +kernel
theorem dX10_init_272 : decode cX10_init 272 = .ok (.istore_n 1, 1) := by decide +kernel
theorem dX10_init_273 : decode cX10_init 273 = .ok (.iload_n 1, 1) := by decide +kernel
theorem dX10_init_274 : decode cX10_init 274 = .ok (.bipush 8, 2) := by decide +kernel
theorem dX10_init_276 : decode cX10_init 276 = .ok (.if_icmp .ge 16, 3) := by decide +kernel
theorem dX10_init_279 : decode cX10_init 279 = .ok (.aload_n 0, 1) := by decide +kernel
theorem dX10_init_280 : decode cX10_init 280 = .ok (.getfield 47, 3) := by decide +kernel
theorem dX10_init_283 : decode cX10_init 283 = .ok (.iload_n 1, 1) := by decide +kernel
theorem dX10_init_284 : decode cX10_init 284 = .ok (.iconst (-1), 1) := by decide +kernel
theorem dX10_init_285 : decode cX10_init 285 = .ok (.iastore, 1) := by decide +kernel
theorem dX10_init_286 : decode cX10_init 286 = .ok (.iinc 1 1, 3) := by decide +kernel
theorem dX10_init_289 : decode cX10_init 289 = .ok (.goto (-16), 3) := by decide +kernel
theorem dX10_init_292 : decode cX10_init 292 = .ok (.return_, 1) := by decide +kernel
set_option maxRecDepth 20000 in
theorem ggX10_right_X10_isCorner : GoodIn wsX10_right wsX10_isCorner := goodIn_r _ [9, 10, 11, 8, 12] rfl (by decide +kernel)
set_option maxRecDepth 20000 in
theorem gX10_right_X10_isCorner : GoodIn wsX10_right (va_wsS RX10 118 yX10_isCorner wsX10_isCorner) := goodIn_app (goodIn_of _ (by decide +kernel)) ggX10_right_X10_isCorner
set_option maxRecDepth 20000 in
theorem ggX10_right_X10_in : GoodIn wsX10_right wsX10_in := goodIn_r _ [12] rfl (by decide +kernel)
set_option maxRecDepth 20000 in
theorem gX10_right_X10_in : GoodIn wsX10_right (va_wsS RX10 93 yX10_in wsX10_in) := goodIn_app (goodIn_of _ (by decide +kernel)) ggX10_right_X10_in
set_option maxRecDepth 20000 in
theorem ggX10_right_X10_likeness : GoodIn wsX10_right wsX10_likeness := goodIn_r _ [16, 17, 18, 19, 20, 21, 22, 23, 24, 25, 26, 27, 28, 29, 30, 31, 32, 33, 34, 35, 36, 37, 38, 39, 40, 41, 42, 43, 44, 45, 46, 47, 48, 49, 50, 51, 52, 53, 54, 55, 56] rfl (by decide +kernel)
set_option maxRecDepth 20000 in
theorem gX10_right_X10_likeness : GoodIn wsX10_right (wsV RX10 115 RX10 yX10_likeness wsX10_likeness) := goodIn_app (goodIn_of _ (by decide +kernel)) ggX10_right_X10_likeness
theorem dX10_right_0 : decode cX10_right 0 = .ok (.iload_n 1, 1) := by decide +kernel
theorem dX10_right_1 : decode cX10_right 1 = .ok (.invokestatic 118, 3) := by decide +kernel
theorem dX10_right_4 : decode cX10_right 4 = .ok (.ifCond .ne 6, 3) := by decide +kernel
theorem dX10_right_7 : decode cX10_right 7 = .ok (.bipush (-2), 2) := by decide +kernel
theorem dX10_right_9 : decode cX10_right 9 = .ok (.ireturn, 1) := by decide +kernel
theorem dX10_right_10 : decode cX10_right 10 = .ok (.iload_n 2, 1) := by decide +kernel
theorem dX10_right_11 : decode cX10_right 11 = .ok (.iconst 0, 1) := by decide +kernel
theorem dX10_right_12 : decode cX10_right 12 = .ok (.iconst 1, 1) := by decide +kernel
theorem dX10_right_13 : decode cX10_right 13 = .ok (.invokestatic 93, 3) := by decide +kernel
theorem dX10_right_16 : decode cX10_right 16 = .ok (.ifCond .ne 6, 3) := by decide +kernel
theorem dX10_right_19 : decode cX10_right 19 = .ok (.bipush (-3), 2) := by decide +kernel
theorem dX10_right_21 : decode cX10_right 21 = .ok (.ireturn, 1) := by decide +kernel
theorem dX10_right_22 : decode cX10_right 22 = .ok (.aload_n 0, 1) := by decide +kernel
theorem dX10_right_23 : decode cX10_right 23 = .ok (.getfield 32, 3) := by decide +kernel
theorem dX10_right_26 : decode cX10_right 26 = .ok (.iload_n 1, 1) := by decide +kernel
theorem dX10_right_27 : decode cX10_right 27 = .ok (.iaload, 1) := by decide +kernel
theorem dX10_right_28 : decode cX10_right 28 = .ok (.iconst (-1), 1) := by decide +kernel
theorem dX10_right_29 : decode cX10_right 29 = .ok (.if_icmp .ne 6, 3) := by decide +kernel
theorem dX10_right_32 : decode cX10_right 32 = .ok (.bipush (-4), 2) := by decide +kernel
theorem dX10_right_34 : decode cX10_right 34 = .ok (.ireturn, 1) := by decide +kernel
theorem dX10_right_35 : decode cX10_right 35 = .ok (.aload_n 0, 1) := by decide +kernel
theorem dX10_right_36 : decode cX10_right 36 = .ok (.getfield 35, 3) := by decide +kernel
theorem dX10_right_39 : decode cX10_right 39 = .ok (.iload_n 1, 1) := by decide +kernel
theorem dX10_right_40 : decode cX10_right 40 = .ok (.iaload, 1) := by decide +kernel
theorem dX10_right_41 : decode cX10_right 41 = .ok (.aload_n 0, 1) := by decide +kernel
theorem dX10_right_42 : decode cX10_right 42 = .ok (.getfield 38, 3) := by decide +kernel
theorem dX10_right_45 : decode cX10_right 45 = .ok (.iload_n 1, 1) := by decide +kernel
theorem dX10_right_46 : decode cX10_right 46 = .ok (.iaload, 1) := by decide +kernel
theorem dX10_right_47 : decode cX10_right 47 = .ok (.iconst (-1), 1) := by decide +kernel
theorem dX10_right_48 : decode cX10_right 48 = .ok (.if_icmp .ne 7, 3) := by decide +kernel
theorem dX10_right_51 : decode cX10_right 51 = .ok (.iconst 0, 1) := by decide +kernel
theorem dX10_right_52 : decode cX10_right 52 = .ok (.goto 9, 3) := by decide +kernel
theorem dX10_right_55 : decode cX10_right 55 = .ok (.aload_n 0, 1) := by decide +kernel
theorem dX10_right_56 : decode cX10_right 56 = .ok (.getfield 41, 3) := by decide +kernel
theorem dX10_right_59 : decode cX10_right 59 = .ok (.iload_n 1, 1) := by decide +kernel
theorem dX10_right_60 : decode cX10_right 60 = .ok (.iaload, 1) := by decide +kernel
theorem dX10_right_61 : decode cX10_right 61 = .ok (.iadd, 1) := by decide +kernel
theorem dX10_right_62 : decode cX10_right 62 = .ok (.istore_n 3, 1) := by decide +kernel
theorem dX10_right_63 : decode cX10_right 63 = .ok (.iload_n 1, 1) := by decide +kernel
theorem dX10_right_64 : decode cX10_right 64 = .ok (.bipush 6, 2) := by decide +kernel
theorem dX10_right_66 : decode cX10_right 66 = .ok (.idiv, 1) := by decide +kernel
theorem dX10_right_67 : decode cX10_right 67 = .ok (.bipush 6, 2) := by decide +kernel
theorem dX10_right_69 : decode cX10_right 69 = .ok (.imul, 1) := by decide +kernel
theorem dX10_right_70 : decode cX10_right 70 = .ok (.istore 4, 2) := by decide +kernel
theorem dX10_right_72 : decode cX10_right 72 = .ok (.iload 4, 2) := by decide +kernel
theorem dX10_right_74 : decode cX10_right 74 = .ok (.iload_n 1, 1) := by decide +kernel
theorem dX10_right_75 : decode cX10_right 75 = .ok (.bipush 6, 2) := by decide +kernel
theorem dX10_right_77 : decode cX10_right 77 = .ok (.idiv, 1) := by decide +kernel
theorem dX10_right_78 : decode cX10_right 78 = .ok (.bipush 6, 2) := by decide +kernel
theorem dX10_right_80 : decode cX10_right 80 = .ok (.imul, 1) := by decide +kernel
theorem dX10_right_81 : decode cX10_right 81 = .ok (.bipush 6, 2) := by decide +kernel
theorem dX10_right_83 : decode cX10_right 83 = .ok (.iadd, 1) := by decide +kernel
theorem dX10_right_84 : decode cX10_right 84 = .ok (.if_icmp .ge 64, 3) := by decide +kernel
theorem dX10_right_87 : decode cX10_right 87 = .ok (.iload_n 3, 1) := by decide +kernel
theorem dX10_right_88 : decode cX10_right 88 = .ok (.iload 4, 2) := by decide +kernel
theorem dX10_right_90 : decode cX10_right 90 = .ok (.iload_n 1, 1) := by decide +kernel
theorem dX10_right_91 : decode cX10_right 91 = .ok (.if_icmp .eq 48, 3) := by decide +kernel
theorem dX10_right_94 : decode cX10_right 94 = .ok (.aload_n 0, 1) := by decide +kernel
theorem dX10_right_95 : decode cX10_right 95 = .ok (.getfield 32, 3) := by decide +kernel
theorem dX10_right_98 : decode cX10_right 98 = .ok (.iload 4, 2) := by decide +kernel
