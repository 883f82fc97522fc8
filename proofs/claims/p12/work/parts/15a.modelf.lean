theorem dX10_init_0 : decode cX10_init 0 = .ok (.aload_n 0, 1) := dq_at dqX10_init_p150 0 rfl
theorem dX10_init_1 : decode cX10_init 1 = .ok (.invokespecial 1, 3) := dq_at dqX10_init_p150 1 rfl
theorem dX10_init_4 : decode cX10_init 4 = .ok (.aload_n 0, 1) := dq_at dqX10_init_p150 2 rfl
theorem dX10_init_5 : decode cX10_init 5 = .ok (.bipush 14, 2) := dq_at dqX10_init_p150 3 rfl
theorem dX10_init_7 : decode cX10_init 7 = .ok (.newarray .int, 2) := dq_at dqX10_init_p150 4 rfl
theorem dX10_init_9 : decode cX10_init 9 = .ok (.putfield 7, 3) := dq_at dqX10_init_p150 5 rfl
theorem dX10_init_12 : decode cX10_init 12 = .ok (.aload_n 0, 1) := dq_at dqX10_init_p150 6 rfl
theorem dX10_init_13 : decode cX10_init 13 = .ok (.bipush 14, 2) := dq_at dqX10_init_p150 7 rfl
theorem dX10_init_15 : decode cX10_init 15 = .ok (.newarray .int, 2) := dq_at dqX10_init_p150 8 rfl
theorem dX10_init_17 : decode cX10_init 17 = .ok (.putfield 13, 3) := dq_at dqX10_init_p150 9 rfl
theorem dX10_init_20 : decode cX10_init 20 = .ok (.aload_n 0, 1) := dq_at dqX10_init_p150 10 rfl
theorem dX10_init_21 : decode cX10_init 21 = .ok (.bipush 8, 2) := dq_at dqX10_init_p150 11 rfl
theorem dX10_init_23 : decode cX10_init 23 = .ok (.newarray .int, 2) := dq_at dqX10_init_p150 12 rfl
theorem dX10_init_25 : decode cX10_init 25 = .ok (.putfield 16, 3) := dq_at dqX10_init_p150 13 rfl
theorem dX10_init_28 : decode cX10_init 28 = .ok (.aload_n 0, 1) := dq_at dqX10_init_p150 14 rfl
theorem dX10_init_29 : decode cX10_init 29 = .ok (.bipush 24, 2) := dq_at dqX10_init_p150 15 rfl
theorem dX10_init_31 : decode cX10_init 31 = .ok (.newarray .int, 2) := dq_at dqX10_init_p150 16 rfl
theorem dX10_init_33 : decode cX10_init 33 = .ok (.putfield 19, 3) := dq_at dqX10_init_p150 17 rfl
theorem dX10_init_36 : decode cX10_init 36 = .ok (.aload_n 0, 1) := dq_at dqX10_init_p150 18 rfl
theorem dX10_init_37 : decode cX10_init 37 = .ok (.iconst 4, 1) := dq_at dqX10_init_p150 19 rfl
theorem dX10_init_38 : decode cX10_init 38 = .ok (.putfield 22, 3) := dq_at dqX10_init_p151 0 rfl
theorem dX10_init_41 : decode cX10_init 41 = .ok (.aload_n 0, 1) := dq_at dqX10_init_p151 1 rfl
theorem dX10_init_42 : decode cX10_init 42 = .ok (.bipush 50, 2) := dq_at dqX10_init_p151 2 rfl
theorem dX10_init_44 : decode cX10_init 44 = .ok (.putfield 26, 3) := dq_at dqX10_init_p151 3 rfl
theorem dX10_init_47 : decode cX10_init 47 = .ok (.aload_n 0, 1) := dq_at dqX10_init_p151 4 rfl
theorem dX10_init_48 : decode cX10_init 48 = .ok (.bipush 11, 2) := dq_at dqX10_init_p151 5 rfl
theorem dX10_init_50 : decode cX10_init 50 = .ok (.newarray .int, 2) := dq_at dqX10_init_p151 6 rfl
theorem dX10_init_52 : decode cX10_init 52 = .ok (.putfield 29, 3) := dq_at dqX10_init_p151 7 rfl
theorem dX10_init_55 : decode cX10_init 55 = .ok (.aload_n 0, 1) := dq_at dqX10_init_p151 8 rfl
theorem dX10_init_56 : decode cX10_init 56 = .ok (.bipush 48, 2) := dq_at dqX10_init_p151 9 rfl
theorem dX10_init_58 : decode cX10_init 58 = .ok (.newarray .int, 2) := dq_at dqX10_init_p151 10 rfl
theorem dX10_init_60 : decode cX10_init 60 = .ok (.putfield 32, 3) := dq_at dqX10_init_p151 11 rfl
theorem dX10_init_63 : decode cX10_init 63 = .ok (.aload_n 0, 1) := dq_at dqX10_init_p151 12 rfl
theorem dX10_init_64 : decode cX10_init 64 = .ok (.bipush 48, 2) := dq_at dqX10_init_p151 13 rfl
theorem dX10_init_66 : decode cX10_init 66 = .ok (.newarray .int, 2) := dq_at dqX10_init_p151 14 rfl
theorem dX10_init_68 : decode cX10_init 68 = .ok (.putfield 35, 3) := dq_at dqX10_init_p151 15 rfl
theorem dX10_init_71 : decode cX10_init 71 = .ok (.aload_n 0, 1) := dq_at dqX10_init_p151 16 rfl
theorem dX10_init_72 : decode cX10_init 72 = .ok (.bipush 48, 2) := dq_at dqX10_init_p151 17 rfl
theorem dX10_init_74 : decode cX10_init 74 = .ok (.newarray .int, 2) := dq_at dqX10_init_p151 18 rfl
theorem dX10_init_76 : decode cX10_init 76 = .ok (.putfield 38, 3) := dq_at dqX10_init_p151 19 rfl
theorem dX10_init_79 : decode cX10_init 79 = .ok (.aload_n 0, 1) := dq_at dqX10_init_p152 0 rfl
theorem dX10_init_80 : decode cX10_init 80 = .ok (.bipush 48, 2) := dq_at dqX10_init_p152 1 rfl
theorem dX10_init_82 : decode cX10_init 82 = .ok (.newarray .int, 2) := dq_at dqX10_init_p152 2 rfl
theorem dX10_init_84 : decode cX10_init 84 = .ok (.putfield 41, 3) := dq_at dqX10_init_p152 3 rfl
theorem dX10_init_87 : decode cX10_init 87 = .ok (.aload_n 0, 1) := dq_at dqX10_init_p152 4 rfl
theorem dX10_init_88 : decode cX10_init 88 = .ok (.bipush 48, 2) := dq_at dqX10_init_p152 5 rfl
theorem dX10_init_90 : decode cX10_init 90 = .ok (.newarray .int, 2) := dq_at dqX10_init_p152 6 rfl
theorem dX10_init_92 : decode cX10_init 92 = .ok (.putfield 44, 3) := dq_at dqX10_init_p152 7 rfl
theorem dX10_init_95 : decode cX10_init 95 = .ok (.aload_n 0, 1) := dq_at dqX10_init_p152 8 rfl
theorem dX10_init_96 : decode cX10_init 96 = .ok (.bipush 8, 2) := dq_at dqX10_init_p152 9 rfl
theorem dX10_init_98 : decode cX10_init 98 = .ok (.newarray .int, 2) := dq_at dqX10_init_p152 10 rfl
theorem dX10_init_100 : decode cX10_init 100 = .ok (.putfield 47, 3) := dq_at dqX10_init_p152 11 rfl
theorem dX10_init_103 : decode cX10_init 103 = .ok (.aload_n 0, 1) := dq_at dqX10_init_p152 12 rfl
theorem dX10_init_104 : decode cX10_init 104 = .ok (.sipush 240, 3) := dq_at dqX10_init_p152 13 rfl
theorem dX10_init_107 : decode cX10_init 107 = .ok (.newarray .int, 2) := dq_at dqX10_init_p152 14 rfl
theorem dX10_init_109 : decode cX10_init 109 = .ok (.putfield 50, 3) := dq_at dqX10_init_p152 15 rfl
theorem dX10_init_112 : decode cX10_init 112 = .ok (.aload_n 0, 1) := dq_at dqX10_init_p152 16 rfl
theorem dX10_init_113 : decode cX10_init 113 = .ok (.sipush 240, 3) := dq_at dqX10_init_p152 17 rfl
theorem dX10_init_116 : decode cX10_init 116 = .ok (.newarray .int, 2) := dq_at dqX10_init_p152 18 rfl
theorem dX10_init_118 : decode cX10_init 118 = .ok (.putfield 53, 3) := dq_at dqX10_init_p152 19 rfl
theorem dX10_init_121 : decode cX10_init 121 = .ok (.aload_n 0, 1) := dq_at dqX10_init_p153 0 rfl
theorem dX10_init_122 : decode cX10_init 122 = .ok (.iconst 5, 1) := dq_at dqX10_init_p153 1 rfl
theorem dX10_init_123 : decode cX10_init 123 = .ok (.newarray .int, 2) := dq_at dqX10_init_p153 2 rfl
theorem dX10_init_125 : decode cX10_init 125 = .ok (.putfield 56, 3) := dq_at dqX10_init_p153 3 rfl
theorem dX10_init_128 : decode cX10_init 128 = .ok (.aload_n 0, 1) := dq_at dqX10_init_p153 4 rfl
theorem dX10_init_129 : decode cX10_init 129 = .ok (.iconst 4, 1) := dq_at dqX10_init_p153 5 rfl
theorem dX10_init_130 : decode cX10_init 130 = .ok (.newarray .int, 2) := dq_at dqX10_init_p153 6 rfl
theorem dX10_init_132 : decode cX10_init 132 = .ok (.putfield 59, 3) := dq_at dqX10_init_p153 7 rfl
theorem dX10_init_135 : decode cX10_init 135 = .ok (.aload_n 0, 1) := dq_at dqX10_init_p153 8 rfl
theorem dX10_init_136 : decode cX10_init 136 = .ok (.sipush 160, 3) := dq_at dqX10_init_p153 9 rfl
theorem dX10_init_139 : decode cX10_init 139 = .ok (.newarray .int, 2) := dq_at dqX10_init_p153 10 rfl
theorem dX10_init_141 : decode cX10_init 141 = .ok (.putfield 62, 3) := dq_at dqX10_init_p153 11 rfl
theorem dX10_init_144 : decode cX10_init 144 = .ok (.aload_n 0, 1) := dq_at dqX10_init_p153 12 rfl
theorem dX10_init_145 : decode cX10_init 145 = .ok (.bipush 30, 2) := dq_at dqX10_init_p153 13 rfl
theorem dX10_init_147 : decode cX10_init 147 = .ok (.newarray .int, 2) := dq_at dqX10_init_p153 14 rfl
theorem dX10_init_149 : decode cX10_init 149 = .ok (.putfield 65, 3) := dq_at dqX10_init_p153 15 rfl
theorem dX10_init_152 : decode cX10_init 152 = .ok (.aload_n 0, 1) := dq_at dqX10_init_p153 16 rfl
theorem dX10_init_153 : decode cX10_init 153 = .ok (.bipush 30, 2) := dq_at dqX10_init_p153 17 rfl
theorem dX10_init_155 : decode cX10_init 155 = .ok (.newarray .int, 2) := dq_at dqX10_init_p153 18 rfl
theorem dX10_init_157 : decode cX10_init 157 = .ok (.putfield 68, 3) := dq_at dqX10_init_p153 19 rfl
theorem dX10_init_160 : decode cX10_init 160 = .ok (.aload_n 0, 1) := dq_at dqX10_init_p154 0 rfl
theorem dX10_init_161 : decode cX10_init 161 = .ok (.bipush 8, 2) := dq_at dqX10_init_p154 1 rfl
theorem dX10_init_163 : decode cX10_init 163 = .ok (.newarray .int, 2) := dq_at dqX10_init_p154 2 rfl
theorem dX10_init_165 : decode cX10_init 165 = .ok (.putfield 71, 3) := dq_at dqX10_init_p154 3 rfl
theorem dX10_init_168 : decode cX10_init 168 = .ok (.aload_n 0, 1) := dq_at dqX10_init_p154 4 rfl
theorem dX10_init_169 : decode cX10_init 169 = .ok (.bipush 8, 2) := dq_at dqX10_init_p154 5 rfl
theorem dX10_init_171 : decode cX10_init 171 = .ok (.newarray .int, 2) := dq_at dqX10_init_p154 6 rfl
theorem dX10_init_173 : decode cX10_init 173 = .ok (.putfield 74, 3) := dq_at dqX10_init_p154 7 rfl
theorem dX10_init_176 : decode cX10_init 176 = .ok (.aload_n 0, 1) := dq_at dqX10_init_p154 8 rfl
theorem dX10_init_177 : decode cX10_init 177 = .ok (.bipush 8, 2) := dq_at dqX10_init_p154 9 rfl
theorem dX10_init_179 : decode cX10_init 179 = .ok (.newarray .int, 2) := dq_at dqX10_init_p154 10 rfl
theorem dX10_init_181 : decode cX10_init 181 = .ok (.putfield 77, 3) := dq_at dqX10_init_p154 11 rfl
theorem dX10_init_184 : decode cX10_init 184 = .ok (.aload_n 0, 1) := dq_at dqX10_init_p154 12 rfl
theorem dX10_init_185 : decode cX10_init 185 = .ok (.iconst 4, 1) := dq_at dqX10_init_p154 13 rfl
theorem dX10_init_186 : decode cX10_init 186 = .ok (.newarray .int, 2) := dq_at dqX10_init_p154 14 rfl
theorem dX10_init_188 : decode cX10_init 188 = .ok (.putfield 80, 3) := dq_at dqX10_init_p154 15 rfl
theorem dX10_init_191 : decode cX10_init 191 = .ok (.aload_n 0, 1) := dq_at dqX10_init_p154 16 rfl
theorem dX10_init_192 : decode cX10_init 192 = .ok (.bipush 48, 2) := dq_at dqX10_init_p154 17 rfl
theorem dX10_init_194 : decode cX10_init 194 = .ok (.newarray .int, 2) := dq_at dqX10_init_p154 18 rfl
theorem dX10_init_196 : decode cX10_init 196 = .ok (.putfield 83, 3) := dq_at dqX10_init_p154 19 rfl
theorem dX10_init_199 : decode cX10_init 199 = .ok (.aload_n 0, 1) := dq_at dqX10_init_p155 0 rfl
theorem dX10_init_200 : decode cX10_init 200 = .ok (.bipush 48, 2) := dq_at dqX10_init_p155 1 rfl
theorem dX10_init_202 : decode cX10_init 202 = .ok (.newarray .boolean, 2) := dq_at dqX10_init_p155 2 rfl
theorem dX10_init_204 : decode cX10_init 204 = .ok (.putfield 86, 3) := dq_at dqX10_init_p155 3 rfl
theorem dX10_init_207 : decode cX10_init 207 = .ok (.aload_n 0, 1) := dq_at dqX10_init_p155 4 rfl
theorem dX10_init_208 : decode cX10_init 208 = .ok (.bipush 100, 2) := dq_at dqX10_init_p155 5 rfl
theorem dX10_init_210 : decode cX10_init 210 = .ok (.newarray .int, 2) := dq_at dqX10_init_p155 6 rfl
theorem dX10_init_212 : decode cX10_init 212 = .ok (.putfield 90, 3) := dq_at dqX10_init_p155 7 rfl
theorem dX10_init_215 : decode cX10_init 215 = .ok (.iconst 0, 1) := dq_at dqX10_init_p155 8 rfl
theorem dX10_init_216 : decode cX10_init 216 = .ok (.istore_n 1, 1) := dq_at dqX10_init_p155 9 rfl
theorem dX10_init_217 : decode cX10_init 217 = .ok (.iload_n 1, 1) := dq_at dqX10_init_p155 10 rfl
theorem dX10_init_218 : decode cX10_init 218 = .ok (.bipush 11, 2) := dq_at dqX10_init_p155 11 rfl
theorem dX10_init_220 : decode cX10_init 220 = .ok (.if_icmp .ge 16, 3) := dq_at dqX10_init_p155 12 rfl
theorem dX10_init_223 : decode cX10_init 223 = .ok (.aload_n 0, 1) := dq_at dqX10_init_p155 13 rfl
theorem dX10_init_224 : decode cX10_init 224 = .ok (.getfield 29, 3) := dq_at dqX10_init_p155 14 rfl
theorem dX10_init_227 : decode cX10_init 227 = .ok (.iload_n 1, 1) := dq_at dqX10_init_p155 15 rfl
theorem dX10_init_228 : decode cX10_init 228 = .ok (.iconst 5, 1) := dq_at dqX10_init_p155 16 rfl
theorem dX10_init_229 : decode cX10_init 229 = .ok (.iastore, 1) := dq_at dqX10_init_p155 17 rfl
theorem dX10_init_230 : decode cX10_init 230 = .ok (.iinc 1 1, 3) := dq_at dqX10_init_p155 18 rfl
theorem dX10_init_233 : decode cX10_init 233 = .ok (.goto (-16), 3) := dq_at dqX10_init_p155 19 rfl
theorem dX10_init_236 : decode cX10_init 236 = .ok (.iconst 0, 1) := dq_at dqX10_init_p156 0 rfl
theorem dX10_init_237 : decode cX10_init 237 = .ok (.istore_n 1, 1) := dq_at dqX10_init_p156 1 rfl
theorem dX10_init_238 : decode cX10_init 238 = .ok (.iload_n 1, 1) := dq_at dqX10_init_p156 2 rfl
theorem dX10_init_239 : decode cX10_init 239 = .ok (.bipush 48, 2) := dq_at dqX10_init_p156 3 rfl
theorem dX10_init_241 : decode cX10_init 241 = .ok (.if_icmp .ge 30, 3) := dq_at dqX10_init_p156 4 rfl
theorem dX10_init_244 : decode cX10_init 244 = .ok (.aload_n 0, 1) := dq_at dqX10_init_p156 5 rfl
theorem dX10_init_245 : decode cX10_init 245 = .ok (.getfield 32, 3) := dq_at dqX10_init_p156 6 rfl
theorem dX10_init_248 : decode cX10_init 248 = .ok (.iload_n 1, 1) := dq_at dqX10_init_p156 7 rfl
theorem dX10_init_249 : decode cX10_init 249 = .ok (.iconst (-1), 1) := dq_at dqX10_init_p156 8 rfl
theorem dX10_init_250 : decode cX10_init 250 = .ok (.iastore, 1) := dq_at dqX10_init_p156 9 rfl
theorem dX10_init_251 : decode cX10_init 251 = .ok (.aload_n 0, 1) := dq_at dqX10_init_p156 10 rfl
theorem dX10_init_252 : decode cX10_init 252 = .ok (.getfield 38, 3) := dq_at dqX10_init_p156 11 rfl
theorem dX10_init_255 : decode cX10_init 255 = .ok (.iload_n 1, 1) := dq_at dqX10_init_p156 12 rfl
theorem dX10_init_256 : decode cX10_init 256 = .ok (.iconst (-1), 1) := dq_at dqX10_init_p156 13 rfl
theorem dX10_init_257 : decode cX10_init 257 = .ok (.iastore, 1) := dq_at dqX10_init_p156 14 rfl
theorem dX10_init_258 : decode cX10_init 258 = .ok (.aload_n 0, 1) := dq_at dqX10_init_p156 15 rfl
theorem dX10_init_259 : decode cX10_init 259 = .ok (.getfield 44, 3) := dq_at dqX10_init_p156 16 rfl
theorem dX10_init_262 : decode cX10_init 262 = .ok (.iload_n 1, 1) := dq_at dqX10_init_p156 17 rfl
theorem dX10_init_263 : decode cX10_init 263 = .ok (.iconst (-1), 1) := dq_at dqX10_init_p156 18 rfl
theorem dX10_init_264 : decode cX10_init 264 = .ok (.iastore, 1) := dq_at dqX10_init_p156 19 rfl
theorem dX10_init_265 : decode cX10_init 265 = .ok (.iinc 1 1, 3) := dq_at dqX10_init_p157 0 rfl
theorem dX10_init_268 : decode cX10_init 268 = .ok (.goto (-30), 3) := dq_at dqX10_init_p157 1 rfl
theorem dX10_init_271 : decode cX10_init 271 = .ok (.iconst 0, 1) := dq_at dqX10_init_p157 2 rfl
theorem dX10_init_272 : decode cX10_init 272 = .ok (.istore_n 1, 1) := dq_at dqX10_init_p157 3 rfl
theorem dX10_init_273 : decode cX10_init 273 = .ok (.iload_n 1, 1) := dq_at dqX10_init_p157 4 rfl
theorem dX10_init_274 : decode cX10_init 274 = .ok (.bipush 8, 2) := dq_at dqX10_init_p157 5 rfl
theorem dX10_init_276 : decode cX10_init 276 = .ok (.if_icmp .ge 16, 3) := dq_at dqX10_init_p157 6 rfl
theorem dX10_init_279 : decode cX10_init 279 = .ok (.aload_n 0, 1) := dq_at dqX10_init_p157 7 rfl
theorem dX10_init_280 : decode cX10_init 280 = .ok (.getfield 47, 3) := dq_at dqX10_init_p157 8 rfl
theorem dX10_init_283 : decode cX10_init 283 = .ok (.iload_n 1, 1) := dq_at dqX10_init_p157 9 rfl
theorem dX10_init_284 : decode cX10_init 284 = .ok (.iconst (-1), 1) := dq_at dqX10_init_p157 10 rfl
theorem dX10_init_285 : decode cX10_init 285 = .ok (.iastore, 1) := dq_at dqX10_init_p157 11 rfl
theorem dX10_init_286 : decode cX10_init 286 = .ok (.iinc 1 1, 3) := dq_at dqX10_init_p157 12 rfl
theorem dX10_init_289 : decode cX10_init 289 = .ok (.goto (-16), 3) := dq_at dqX10_init_p157 13 rfl
theorem dX10_init_292 : decode cX10_init 292 = .ok (.return_, 1) := dq_at dqX10_init_p157 14 rfl
theorem dX10_right_0 : decode cX10_right 0 = .ok (.iload_n 1, 1) := dq_at dqX10_right_p150 0 rfl
theorem dX10_right_1 : decode cX10_right 1 = .ok (.invokestatic 118, 3) := dq_at dqX10_right_p150 1 rfl
theorem dX10_right_4 : decode cX10_right 4 = .ok (.ifCond .ne 6, 3) := dq_at dqX10_right_p150 2 rfl
theorem dX10_right_7 : decode cX10_right 7 = .ok (.bipush (-2), 2) := dq_at dqX10_right_p150 3 rfl
theorem dX10_right_9 : decode cX10_right 9 = .ok (.ireturn, 1) := dq_at dqX10_right_p150 4 rfl
theorem dX10_right_10 : decode cX10_right 10 = .ok (.iload_n 2, 1) := dq_at dqX10_right_p150 5 rfl
theorem dX10_right_11 : decode cX10_right 11 = .ok (.iconst 0, 1) := dq_at dqX10_right_p150 6 rfl
theorem dX10_right_12 : decode cX10_right 12 = .ok (.iconst 1, 1) := dq_at dqX10_right_p150 7 rfl
theorem dX10_right_13 : decode cX10_right 13 = .ok (.invokestatic 93, 3) := dq_at dqX10_right_p150 8 rfl
theorem dX10_right_16 : decode cX10_right 16 = .ok (.ifCond .ne 6, 3) := dq_at dqX10_right_p150 9 rfl
theorem dX10_right_19 : decode cX10_right 19 = .ok (.bipush (-3), 2) := dq_at dqX10_right_p150 10 rfl
theorem dX10_right_21 : decode cX10_right 21 = .ok (.ireturn, 1) := dq_at dqX10_right_p150 11 rfl
theorem dX10_right_22 : decode cX10_right 22 = .ok (.aload_n 0, 1) := dq_at dqX10_right_p150 12 rfl
theorem dX10_right_23 : decode cX10_right 23 = .ok (.getfield 32, 3) := dq_at dqX10_right_p150 13 rfl
theorem dX10_right_26 : decode cX10_right 26 = .ok (.iload_n 1, 1) := dq_at dqX10_right_p150 14 rfl
theorem dX10_right_27 : decode cX10_right 27 = .ok (.iaload, 1) := dq_at dqX10_right_p150 15 rfl
theorem dX10_right_28 : decode cX10_right 28 = .ok (.iconst (-1), 1) := dq_at dqX10_right_p150 16 rfl
theorem dX10_right_29 : decode cX10_right 29 = .ok (.if_icmp .ne 6, 3) := dq_at dqX10_right_p150 17 rfl
theorem dX10_right_32 : decode cX10_right 32 = .ok (.bipush (-4), 2) := dq_at dqX10_right_p150 18 rfl
theorem dX10_right_34 : decode cX10_right 34 = .ok (.ireturn, 1) := dq_at dqX10_right_p150 19 rfl
theorem dX10_right_35 : decode cX10_right 35 = .ok (.aload_n 0, 1) := dq_at dqX10_right_p151 0 rfl
theorem dX10_right_36 : decode cX10_right 36 = .ok (.getfield 35, 3) := dq_at dqX10_right_p151 1 rfl
theorem dX10_right_39 : decode cX10_right 39 = .ok (.iload_n 1, 1) := dq_at dqX10_right_p151 2 rfl
theorem dX10_right_40 : decode cX10_right 40 = .ok (.iaload, 1) := dq_at dqX10_right_p151 3 rfl
theorem dX10_right_41 : decode cX10_right 41 = .ok (.aload_n 0, 1) := dq_at dqX10_right_p151 4 rfl
theorem dX10_right_42 : decode cX10_right 42 = .ok (.getfield 38, 3) := dq_at dqX10_right_p151 5 rfl
theorem dX10_right_45 : decode cX10_right 45 = .ok (.iload_n 1, 1) := dq_at dqX10_right_p151 6 rfl
theorem dX10_right_46 : decode cX10_right 46 = .ok (.iaload, 1) := dq_at dqX10_right_p151 7 rfl
theorem dX10_right_47 : decode cX10_right 47 = .ok (.iconst (-1), 1) := dq_at dqX10_right_p151 8 rfl
theorem dX10_right_48 : decode cX10_right 48 = .ok (.if_icmp .ne 7, 3) := dq_at dqX10_right_p151 9 rfl
theorem dX10_right_51 : decode cX10_right 51 = .ok (.iconst 0, 1) := dq_at dqX10_right_p151 10 rfl
theorem dX10_right_52 : decode cX10_right 52 = .ok (.goto 9, 3) := dq_at dqX10_right_p151 11 rfl
theorem dX10_right_55 : decode cX10_right 55 = .ok (.aload_n 0, 1) := dq_at dqX10_right_p151 12 rfl
theorem dX10_right_56 : decode cX10_right 56 = .ok (.getfield 41, 3) := dq_at dqX10_right_p151 13 rfl
theorem dX10_right_59 : decode cX10_right 59 = .ok (.iload_n 1, 1) := dq_at dqX10_right_p151 14 rfl
theorem dX10_right_60 : decode cX10_right 60 = .ok (.iaload, 1) := dq_at dqX10_right_p151 15 rfl
theorem dX10_right_61 : decode cX10_right 61 = .ok (.iadd, 1) := dq_at dqX10_right_p151 16 rfl
theorem dX10_right_62 : decode cX10_right 62 = .ok (.istore_n 3, 1) := dq_at dqX10_right_p151 17 rfl
theorem dX10_right_63 : decode cX10_right 63 = .ok (.iload_n 1, 1) := dq_at dqX10_right_p151 18 rfl
theorem dX10_right_64 : decode cX10_right 64 = .ok (.bipush 6, 2) := dq_at dqX10_right_p151 19 rfl
theorem dX10_right_66 : decode cX10_right 66 = .ok (.idiv, 1) := dq_at dqX10_right_p152 0 rfl
theorem dX10_right_67 : decode cX10_right 67 = .ok (.bipush 6, 2) := dq_at dqX10_right_p152 1 rfl
theorem dX10_right_69 : decode cX10_right 69 = .ok (.imul, 1) := dq_at dqX10_right_p152 2 rfl
theorem dX10_right_70 : decode cX10_right 70 = .ok (.istore 4, 2) := dq_at dqX10_right_p152 3 rfl
theorem dX10_right_72 : decode cX10_right 72 = .ok (.iload 4, 2) := dq_at dqX10_right_p152 4 rfl
theorem dX10_right_74 : decode cX10_right 74 = .ok (.iload_n 1, 1) := dq_at dqX10_right_p152 5 rfl
theorem dX10_right_75 : decode cX10_right 75 = .ok (.bipush 6, 2) := dq_at dqX10_right_p152 6 rfl
theorem dX10_right_77 : decode cX10_right 77 = .ok (.idiv, 1) := dq_at dqX10_right_p152 7 rfl
theorem dX10_right_78 : decode cX10_right 78 = .ok (.bipush 6, 2) := dq_at dqX10_right_p152 8 rfl
theorem dX10_right_80 : decode cX10_right 80 = .ok (.imul, 1) := dq_at dqX10_right_p152 9 rfl
theorem dX10_right_81 : decode cX10_right 81 = .ok (.bipush 6, 2) := dq_at dqX10_right_p152 10 rfl
theorem dX10_right_83 : decode cX10_right 83 = .ok (.iadd, 1) := dq_at dqX10_right_p152 11 rfl
theorem dX10_right_84 : decode cX10_right 84 = .ok (.if_icmp .ge 64, 3) := dq_at dqX10_right_p152 12 rfl
theorem dX10_right_87 : decode cX10_right 87 = .ok (.iload_n 3, 1) := dq_at dqX10_right_p152 13 rfl
theorem dX10_right_88 : decode cX10_right 88 = .ok (.iload 4, 2) := dq_at dqX10_right_p152 14 rfl
theorem dX10_right_90 : decode cX10_right 90 = .ok (.iload_n 1, 1) := dq_at dqX10_right_p152 15 rfl
theorem dX10_right_91 : decode cX10_right 91 = .ok (.if_icmp .eq 48, 3) := dq_at dqX10_right_p152 16 rfl
theorem dX10_right_94 : decode cX10_right 94 = .ok (.aload_n 0, 1) := dq_at dqX10_right_p152 17 rfl
theorem dX10_right_95 : decode cX10_right 95 = .ok (.getfield 32, 3) := dq_at dqX10_right_p152 18 rfl
theorem dX10_right_98 : decode cX10_right 98 = .ok (.iload 4, 2) := dq_at dqX10_right_p152 19 rfl
theorem dX10_right_100 : decode cX10_right 100 = .ok (.iaload, 1) := dq_at dqX10_right_p153 0 rfl
theorem dX10_right_101 : decode cX10_right 101 = .ok (.iconst (-1), 1) := dq_at dqX10_right_p153 1 rfl
theorem dX10_right_102 : decode cX10_right 102 = .ok (.if_icmp .eq 37, 3) := dq_at dqX10_right_p153 2 rfl
theorem dX10_right_105 : decode cX10_right 105 = .ok (.aload_n 0, 1) := dq_at dqX10_right_p153 3 rfl
theorem dX10_right_106 : decode cX10_right 106 = .ok (.aload_n 0, 1) := dq_at dqX10_right_p153 4 rfl
theorem dX10_right_107 : decode cX10_right 107 = .ok (.getfield 32, 3) := dq_at dqX10_right_p153 5 rfl
theorem dX10_right_110 : decode cX10_right 110 = .ok (.iload 4, 2) := dq_at dqX10_right_p153 6 rfl
theorem dX10_right_112 : decode cX10_right 112 = .ok (.iaload, 1) := dq_at dqX10_right_p153 7 rfl
theorem dX10_right_113 : decode cX10_right 113 = .ok (.aload_n 0, 1) := dq_at dqX10_right_p153 8 rfl
theorem dX10_right_114 : decode cX10_right 114 = .ok (.getfield 32, 3) := dq_at dqX10_right_p153 9 rfl
theorem dX10_right_117 : decode cX10_right 117 = .ok (.iload_n 1, 1) := dq_at dqX10_right_p153 10 rfl
theorem dX10_right_118 : decode cX10_right 118 = .ok (.iaload, 1) := dq_at dqX10_right_p153 11 rfl
theorem dX10_right_119 : decode cX10_right 119 = .ok (.invokevirtual 115, 3) := dq_at dqX10_right_p153 12 rfl
theorem dX10_right_122 : decode cX10_right 122 = .ok (.aload_n 0, 1) := dq_at dqX10_right_p153 13 rfl
theorem dX10_right_123 : decode cX10_right 123 = .ok (.getfield 22, 3) := dq_at dqX10_right_p153 14 rfl
theorem dX10_right_126 : decode cX10_right 126 = .ok (.if_icmp .lt 13, 3) := dq_at dqX10_right_p153 15 rfl
theorem dX10_right_129 : decode cX10_right 129 = .ok (.aload_n 0, 1) := dq_at dqX10_right_p153 16 rfl
theorem dX10_right_130 : decode cX10_right 130 = .ok (.getfield 35, 3) := dq_at dqX10_right_p153 17 rfl
theorem dX10_right_133 : decode cX10_right 133 = .ok (.iload 4, 2) := dq_at dqX10_right_p153 18 rfl
theorem dX10_right_135 : decode cX10_right 135 = .ok (.iaload, 1) := dq_at dqX10_right_p153 19 rfl
theorem dX10_right_136 : decode cX10_right 136 = .ok (.goto 4, 3) := dq_at dqX10_right_p154 0 rfl
theorem dX10_right_139 : decode cX10_right 139 = .ok (.iconst 0, 1) := dq_at dqX10_right_p154 1 rfl
theorem dX10_right_140 : decode cX10_right 140 = .ok (.iadd, 1) := dq_at dqX10_right_p154 2 rfl
theorem dX10_right_141 : decode cX10_right 141 = .ok (.istore_n 3, 1) := dq_at dqX10_right_p154 3 rfl
theorem dX10_right_142 : decode cX10_right 142 = .ok (.iinc 4 1, 3) := dq_at dqX10_right_p154 4 rfl
theorem dX10_right_145 : decode cX10_right 145 = .ok (.goto (-73), 3) := dq_at dqX10_right_p154 5 rfl
theorem dX10_right_148 : decode cX10_right 148 = .ok (.iload_n 3, 1) := dq_at dqX10_right_p154 6 rfl
theorem dX10_right_149 : decode cX10_right 149 = .ok (.ifCond .ne 6, 3) := dq_at dqX10_right_p154 7 rfl
theorem dX10_right_152 : decode cX10_right 152 = .ok (.bipush (-4), 2) := dq_at dqX10_right_p154 8 rfl
theorem dX10_right_154 : decode cX10_right 154 = .ok (.ireturn, 1) := dq_at dqX10_right_p154 9 rfl
theorem dX10_right_155 : decode cX10_right 155 = .ok (.iload_n 3, 1) := dq_at dqX10_right_p154 10 rfl
theorem dX10_right_156 : decode cX10_right 156 = .ok (.istore 4, 2) := dq_at dqX10_right_p154 11 rfl
theorem dX10_right_158 : decode cX10_right 158 = .ok (.aload_n 0, 1) := dq_at dqX10_right_p154 12 rfl
theorem dX10_right_159 : decode cX10_right 159 = .ok (.getfield 35, 3) := dq_at dqX10_right_p154 13 rfl
theorem dX10_right_162 : decode cX10_right 162 = .ok (.iload_n 1, 1) := dq_at dqX10_right_p154 14 rfl
theorem dX10_right_163 : decode cX10_right 163 = .ok (.iaload, 1) := dq_at dqX10_right_p154 15 rfl
theorem dX10_right_164 : decode cX10_right 164 = .ok (.istore 5, 2) := dq_at dqX10_right_p154 16 rfl
theorem dX10_right_166 : decode cX10_right 166 = .ok (.iload 5, 2) := dq_at dqX10_right_p154 17 rfl
theorem dX10_right_168 : decode cX10_right 168 = .ok (.ifCond .eq 21, 3) := dq_at dqX10_right_p154 18 rfl
theorem dX10_right_171 : decode cX10_right 171 = .ok (.iload 4, 2) := dq_at dqX10_right_p154 19 rfl
theorem dX10_right_173 : decode cX10_right 173 = .ok (.iload 5, 2) := dq_at dqX10_right_p155 0 rfl
theorem dX10_right_175 : decode cX10_right 175 = .ok (.irem, 1) := dq_at dqX10_right_p155 1 rfl
theorem dX10_right_176 : decode cX10_right 176 = .ok (.istore 6, 2) := dq_at dqX10_right_p155 2 rfl
theorem dX10_right_178 : decode cX10_right 178 = .ok (.iload 5, 2) := dq_at dqX10_right_p155 3 rfl
theorem dX10_right_180 : decode cX10_right 180 = .ok (.istore 4, 2) := dq_at dqX10_right_p155 4 rfl
theorem dX10_right_182 : decode cX10_right 182 = .ok (.iload 6, 2) := dq_at dqX10_right_p155 5 rfl
theorem dX10_right_184 : decode cX10_right 184 = .ok (.istore 5, 2) := dq_at dqX10_right_p155 6 rfl
theorem dX10_right_186 : decode cX10_right 186 = .ok (.goto (-20), 3) := dq_at dqX10_right_p155 7 rfl
theorem dX10_right_189 : decode cX10_right 189 = .ok (.iload_n 2, 1) := dq_at dqX10_right_p155 8 rfl
theorem dX10_right_190 : decode cX10_right 190 = .ok (.ifCond .ne 15, 3) := dq_at dqX10_right_p155 9 rfl
theorem dX10_right_193 : decode cX10_right 193 = .ok (.aload_n 0, 1) := dq_at dqX10_right_p155 10 rfl
theorem dX10_right_194 : decode cX10_right 194 = .ok (.getfield 35, 3) := dq_at dqX10_right_p155 11 rfl
theorem dX10_right_197 : decode cX10_right 197 = .ok (.iload_n 1, 1) := dq_at dqX10_right_p155 12 rfl
theorem dX10_right_198 : decode cX10_right 198 = .ok (.iaload, 1) := dq_at dqX10_right_p155 13 rfl
theorem dX10_right_199 : decode cX10_right 199 = .ok (.iload 4, 2) := dq_at dqX10_right_p155 14 rfl
theorem dX10_right_201 : decode cX10_right 201 = .ok (.idiv, 1) := dq_at dqX10_right_p155 15 rfl
theorem dX10_right_202 : decode cX10_right 202 = .ok (.goto 7, 3) := dq_at dqX10_right_p155 16 rfl
theorem dX10_right_205 : decode cX10_right 205 = .ok (.iload_n 3, 1) := dq_at dqX10_right_p155 17 rfl
theorem dX10_right_206 : decode cX10_right 206 = .ok (.iload 4, 2) := dq_at dqX10_right_p155 18 rfl
theorem dX10_right_208 : decode cX10_right 208 = .ok (.idiv, 1) := dq_at dqX10_right_p155 19 rfl
theorem dX10_causes_0 : decode cX10_causes 0 = .ok (.iload_n 1, 1) := dq_at dqX10_causes_p150 0 rfl
theorem dX10_causes_1 : decode cX10_causes 1 = .ok (.invokestatic 118, 3) := dq_at dqX10_causes_p150 1 rfl
theorem dX10_causes_4 : decode cX10_causes 4 = .ok (.ifCond .eq 10, 3) := dq_at dqX10_causes_p150 2 rfl
theorem dX10_causes_7 : decode cX10_causes 7 = .ok (.iload_n 2, 1) := dq_at dqX10_causes_p150 3 rfl
theorem dX10_causes_8 : decode cX10_causes 8 = .ok (.invokestatic 112, 3) := dq_at dqX10_causes_p150 4 rfl
theorem dX10_causes_11 : decode cX10_causes 11 = .ok (.ifCond .ne 6, 3) := dq_at dqX10_causes_p150 5 rfl
theorem dX10_causes_14 : decode cX10_causes 14 = .ok (.bipush (-2), 2) := dq_at dqX10_causes_p150 6 rfl
theorem dX10_causes_16 : decode cX10_causes 16 = .ok (.ireturn, 1) := dq_at dqX10_causes_p150 7 rfl
theorem dX10_causes_17 : decode cX10_causes 17 = .ok (.aload_n 0, 1) := dq_at dqX10_causes_p150 8 rfl
theorem dX10_causes_18 : decode cX10_causes 18 = .ok (.getfield 32, 3) := dq_at dqX10_causes_p150 9 rfl
theorem dX10_causes_21 : decode cX10_causes 21 = .ok (.iload_n 1, 1) := dq_at dqX10_causes_p150 10 rfl
theorem dX10_causes_22 : decode cX10_causes 22 = .ok (.iaload, 1) := dq_at dqX10_causes_p150 11 rfl
theorem dX10_causes_23 : decode cX10_causes 23 = .ok (.iconst (-1), 1) := dq_at dqX10_causes_p150 12 rfl
theorem dX10_causes_24 : decode cX10_causes 24 = .ok (.if_icmp .eq 13, 3) := dq_at dqX10_causes_p150 13 rfl
theorem dX10_causes_27 : decode cX10_causes 27 = .ok (.aload_n 0, 1) := dq_at dqX10_causes_p150 14 rfl
theorem dX10_causes_28 : decode cX10_causes 28 = .ok (.getfield 32, 3) := dq_at dqX10_causes_p150 15 rfl
theorem dX10_causes_31 : decode cX10_causes 31 = .ok (.iload_n 1, 1) := dq_at dqX10_causes_p150 16 rfl
theorem dX10_causes_32 : decode cX10_causes 32 = .ok (.iaload, 1) := dq_at dqX10_causes_p150 17 rfl
theorem dX10_causes_33 : decode cX10_causes 33 = .ok (.iload_n 2, 1) := dq_at dqX10_causes_p150 18 rfl
theorem dX10_causes_34 : decode cX10_causes 34 = .ok (.if_icmp .ne 6, 3) := dq_at dqX10_causes_p150 19 rfl
theorem dX10_causes_37 : decode cX10_causes 37 = .ok (.bipush (-4), 2) := dq_at dqX10_causes_p151 0 rfl
theorem dX10_causes_39 : decode cX10_causes 39 = .ok (.ireturn, 1) := dq_at dqX10_causes_p151 1 rfl
theorem dX10_causes_40 : decode cX10_causes 40 = .ok (.aload_n 0, 1) := dq_at dqX10_causes_p151 2 rfl
theorem dX10_causes_41 : decode cX10_causes 41 = .ok (.iload_n 2, 1) := dq_at dqX10_causes_p151 3 rfl
theorem dX10_causes_42 : decode cX10_causes 42 = .ok (.invokevirtual 121, 3) := dq_at dqX10_causes_p151 4 rfl
theorem dX10_causes_45 : decode cX10_causes 45 = .ok (.istore_n 3, 1) := dq_at dqX10_causes_p151 5 rfl
theorem dX10_causes_46 : decode cX10_causes 46 = .ok (.aload_n 0, 1) := dq_at dqX10_causes_p151 6 rfl
theorem dX10_causes_47 : decode cX10_causes 47 = .ok (.iload_n 2, 1) := dq_at dqX10_causes_p151 7 rfl
theorem dX10_causes_48 : decode cX10_causes 48 = .ok (.aload_n 0, 1) := dq_at dqX10_causes_p151 8 rfl
theorem dX10_causes_49 : decode cX10_causes 49 = .ok (.getfield 32, 3) := dq_at dqX10_causes_p151 9 rfl
theorem dX10_causes_52 : decode cX10_causes 52 = .ok (.iload_n 1, 1) := dq_at dqX10_causes_p151 10 rfl
theorem dX10_causes_53 : decode cX10_causes 53 = .ok (.iaload, 1) := dq_at dqX10_causes_p151 11 rfl
theorem dX10_causes_54 : decode cX10_causes 54 = .ok (.invokevirtual 115, 3) := dq_at dqX10_causes_p151 12 rfl
theorem dX10_causes_57 : decode cX10_causes 57 = .ok (.aload_n 0, 1) := dq_at dqX10_causes_p151 13 rfl
theorem dX10_causes_58 : decode cX10_causes 58 = .ok (.getfield 22, 3) := dq_at dqX10_causes_p151 14 rfl
theorem dX10_causes_61 : decode cX10_causes 61 = .ok (.if_icmp .lt 7, 3) := dq_at dqX10_causes_p151 15 rfl
theorem dX10_causes_64 : decode cX10_causes 64 = .ok (.iconst 1, 1) := dq_at dqX10_causes_p151 16 rfl
theorem dX10_causes_65 : decode cX10_causes 65 = .ok (.goto 4, 3) := dq_at dqX10_causes_p151 17 rfl
theorem dX10_causes_68 : decode cX10_causes 68 = .ok (.iconst 0, 1) := dq_at dqX10_causes_p151 18 rfl
theorem dX10_causes_69 : decode cX10_causes 69 = .ok (.istore 4, 2) := dq_at dqX10_causes_p151 19 rfl
theorem dX10_causes_71 : decode cX10_causes 71 = .ok (.iload 4, 2) := dq_at dqX10_causes_p152 0 rfl
theorem dX10_causes_73 : decode cX10_causes 73 = .ok (.aload_n 0, 1) := dq_at dqX10_causes_p152 1 rfl
theorem dX10_causes_74 : decode cX10_causes 74 = .ok (.getfield 38, 3) := dq_at dqX10_causes_p152 2 rfl
theorem dX10_causes_77 : decode cX10_causes 77 = .ok (.iload_n 1, 1) := dq_at dqX10_causes_p152 3 rfl
theorem dX10_causes_78 : decode cX10_causes 78 = .ok (.iaload, 1) := dq_at dqX10_causes_p152 4 rfl
theorem dX10_causes_79 : decode cX10_causes 79 = .ok (.iload_n 2, 1) := dq_at dqX10_causes_p152 5 rfl
theorem dX10_causes_80 : decode cX10_causes 80 = .ok (.if_icmp .ne 7, 3) := dq_at dqX10_causes_p152 6 rfl
theorem dX10_causes_83 : decode cX10_causes 83 = .ok (.iconst 2, 1) := dq_at dqX10_causes_p152 7 rfl
theorem dX10_causes_84 : decode cX10_causes 84 = .ok (.goto 4, 3) := dq_at dqX10_causes_p152 8 rfl
theorem dX10_causes_87 : decode cX10_causes 87 = .ok (.iconst 0, 1) := dq_at dqX10_causes_p152 9 rfl
theorem dX10_causes_88 : decode cX10_causes 88 = .ok (.iadd, 1) := dq_at dqX10_causes_p152 10 rfl
theorem dX10_causes_89 : decode cX10_causes 89 = .ok (.istore 4, 2) := dq_at dqX10_causes_p152 11 rfl
theorem dX10_causes_91 : decode cX10_causes 91 = .ok (.iload 4, 2) := dq_at dqX10_causes_p152 12 rfl
theorem dX10_causes_93 : decode cX10_causes 93 = .ok (.iload_n 3, 1) := dq_at dqX10_causes_p152 13 rfl
theorem dX10_causes_94 : decode cX10_causes 94 = .ok (.iconst (-1), 1) := dq_at dqX10_causes_p152 14 rfl
theorem dX10_causes_95 : decode cX10_causes 95 = .ok (.if_icmp .eq 33, 3) := dq_at dqX10_causes_p152 15 rfl
theorem dX10_causes_98 : decode cX10_causes 98 = .ok (.iload_n 3, 1) := dq_at dqX10_causes_p152 16 rfl
theorem dX10_causes_99 : decode cX10_causes 99 = .ok (.bipush 6, 2) := dq_at dqX10_causes_p152 17 rfl
theorem dX10_causes_101 : decode cX10_causes 101 = .ok (.irem, 1) := dq_at dqX10_causes_p152 18 rfl
theorem dX10_causes_102 : decode cX10_causes 102 = .ok (.iload_n 1, 1) := dq_at dqX10_causes_p152 19 rfl
theorem dX10_causes_103 : decode cX10_causes 103 = .ok (.bipush 6, 2) := dq_at dqX10_causes_p153 0 rfl
theorem dX10_causes_105 : decode cX10_causes 105 = .ok (.irem, 1) := dq_at dqX10_causes_p153 1 rfl
theorem dX10_causes_106 : decode cX10_causes 106 = .ok (.if_icmp .ne 22, 3) := dq_at dqX10_causes_p153 2 rfl
theorem dX10_causes_109 : decode cX10_causes 109 = .ok (.aload_n 0, 1) := dq_at dqX10_causes_p153 3 rfl
theorem dX10_causes_110 : decode cX10_causes 110 = .ok (.iload_n 3, 1) := dq_at dqX10_causes_p153 4 rfl
theorem dX10_causes_111 : decode cX10_causes 111 = .ok (.bipush 6, 2) := dq_at dqX10_causes_p153 5 rfl
theorem dX10_causes_113 : decode cX10_causes 113 = .ok (.idiv, 1) := dq_at dqX10_causes_p153 6 rfl
theorem dX10_causes_114 : decode cX10_causes 114 = .ok (.iload_n 1, 1) := dq_at dqX10_causes_p153 7 rfl
theorem dX10_causes_115 : decode cX10_causes 115 = .ok (.bipush 6, 2) := dq_at dqX10_causes_p153 8 rfl
theorem dX10_causes_117 : decode cX10_causes 117 = .ok (.idiv, 1) := dq_at dqX10_causes_p153 9 rfl
theorem dX10_causes_118 : decode cX10_causes 118 = .ok (.invokevirtual 104, 3) := dq_at dqX10_causes_p153 10 rfl
theorem dX10_causes_121 : decode cX10_causes 121 = .ok (.ifCond .eq 7, 3) := dq_at dqX10_causes_p153 11 rfl
theorem dX10_causes_124 : decode cX10_causes 124 = .ok (.iconst 4, 1) := dq_at dqX10_causes_p153 12 rfl
theorem dX10_causes_125 : decode cX10_causes 125 = .ok (.goto 4, 3) := dq_at dqX10_causes_p153 13 rfl
theorem dX10_causes_128 : decode cX10_causes 128 = .ok (.iconst 0, 1) := dq_at dqX10_causes_p153 14 rfl
theorem dX10_causes_129 : decode cX10_causes 129 = .ok (.iadd, 1) := dq_at dqX10_causes_p153 15 rfl
theorem dX10_causes_130 : decode cX10_causes 130 = .ok (.ireturn, 1) := dq_at dqX10_causes_p153 16 rfl
theorem dX10_asked_0 : decode cX10_asked 0 = .ok (.iload_n 1, 1) := dq_at dqX10_asked_p150 0 rfl
theorem dX10_asked_1 : decode cX10_asked 1 = .ok (.invokestatic 112, 3) := dq_at dqX10_asked_p150 1 rfl
theorem dX10_asked_4 : decode cX10_asked 4 = .ok (.ifCond .eq 10, 3) := dq_at dqX10_asked_p150 2 rfl
theorem dX10_asked_7 : decode cX10_asked 7 = .ok (.iload_n 2, 1) := dq_at dqX10_asked_p150 3 rfl
theorem dX10_asked_8 : decode cX10_asked 8 = .ok (.invokestatic 100, 3) := dq_at dqX10_asked_p150 4 rfl
theorem dX10_asked_11 : decode cX10_asked 11 = .ok (.ifCond .ne 6, 3) := dq_at dqX10_asked_p150 5 rfl
theorem dX10_asked_14 : decode cX10_asked 14 = .ok (.bipush (-2), 2) := dq_at dqX10_asked_p150 6 rfl
theorem dX10_asked_16 : decode cX10_asked 16 = .ok (.ireturn, 1) := dq_at dqX10_asked_p150 7 rfl
theorem dX10_asked_17 : decode cX10_asked 17 = .ok (.aload_n 0, 1) := dq_at dqX10_asked_p150 8 rfl
theorem dX10_asked_18 : decode cX10_asked 18 = .ok (.iload_n 1, 1) := dq_at dqX10_asked_p150 9 rfl
theorem dX10_asked_19 : decode cX10_asked 19 = .ok (.invokevirtual 121, 3) := dq_at dqX10_asked_p150 10 rfl
theorem dX10_asked_22 : decode cX10_asked 22 = .ok (.istore_n 3, 1) := dq_at dqX10_asked_p150 11 rfl
theorem dX10_asked_23 : decode cX10_asked 23 = .ok (.iload_n 3, 1) := dq_at dqX10_asked_p150 12 rfl
theorem dX10_asked_24 : decode cX10_asked 24 = .ok (.iconst (-1), 1) := dq_at dqX10_asked_p150 13 rfl
theorem dX10_asked_25 : decode cX10_asked 25 = .ok (.if_icmp .ne 7, 3) := dq_at dqX10_asked_p150 14 rfl
theorem dX10_asked_28 : decode cX10_asked 28 = .ok (.iconst (-1), 1) := dq_at dqX10_asked_p150 15 rfl
theorem dX10_asked_29 : decode cX10_asked 29 = .ok (.goto 12, 3) := dq_at dqX10_asked_p150 16 rfl
theorem dX10_asked_32 : decode cX10_asked 32 = .ok (.aload_n 0, 1) := dq_at dqX10_asked_p150 17 rfl
theorem dX10_asked_33 : decode cX10_asked 33 = .ok (.iload_n 2, 1) := dq_at dqX10_asked_p150 18 rfl
theorem dX10_asked_34 : decode cX10_asked 34 = .ok (.iload_n 3, 1) := dq_at dqX10_asked_p150 19 rfl
theorem dX10_asked_35 : decode cX10_asked 35 = .ok (.bipush 6, 2) := dq_at dqX10_asked_p151 0 rfl
theorem dX10_asked_37 : decode cX10_asked 37 = .ok (.idiv, 1) := dq_at dqX10_asked_p151 1 rfl
theorem dX10_asked_38 : decode cX10_asked 38 = .ok (.invokevirtual 108, 3) := dq_at dqX10_asked_p151 2 rfl
theorem dX10_asked_41 : decode cX10_asked 41 = .ok (.istore 4, 2) := dq_at dqX10_asked_p151 3 rfl
theorem dX10_asked_43 : decode cX10_asked 43 = .ok (.iload 4, 2) := dq_at dqX10_asked_p151 4 rfl
theorem dX10_asked_45 : decode cX10_asked 45 = .ok (.iconst (-1), 1) := dq_at dqX10_asked_p151 5 rfl
theorem dX10_asked_46 : decode cX10_asked 46 = .ok (.if_icmp .ne 7, 3) := dq_at dqX10_asked_p151 6 rfl
theorem dX10_asked_49 : decode cX10_asked 49 = .ok (.iconst (-1), 1) := dq_at dqX10_asked_p151 7 rfl
theorem dX10_asked_50 : decode cX10_asked 50 = .ok (.goto 12, 3) := dq_at dqX10_asked_p151 8 rfl
theorem dX10_asked_53 : decode cX10_asked 53 = .ok (.iload 4, 2) := dq_at dqX10_asked_p151 9 rfl
theorem dX10_asked_55 : decode cX10_asked 55 = .ok (.iload_n 3, 1) := dq_at dqX10_asked_p151 10 rfl
theorem dX10_asked_56 : decode cX10_asked 56 = .ok (.bipush 6, 2) := dq_at dqX10_asked_p151 11 rfl
theorem dX10_asked_58 : decode cX10_asked 58 = .ok (.irem, 1) := dq_at dqX10_asked_p151 12 rfl
theorem dX10_asked_59 : decode cX10_asked 59 = .ok (.iadd, 1) := dq_at dqX10_asked_p151 13 rfl
theorem dX10_asked_60 : decode cX10_asked 60 = .ok (.iconst 1, 1) := dq_at dqX10_asked_p151 14 rfl
theorem dX10_asked_61 : decode cX10_asked 61 = .ok (.iadd, 1) := dq_at dqX10_asked_p151 15 rfl
theorem dX10_asked_62 : decode cX10_asked 62 = .ok (.ireturn, 1) := dq_at dqX10_asked_p151 16 rfl
theorem dX10_beside_0 : decode cX10_beside 0 = .ok (.iload_n 1, 1) := dq_at dqX10_beside_p150 0 rfl
theorem dX10_beside_1 : decode cX10_beside 1 = .ok (.invokestatic 112, 3) := dq_at dqX10_beside_p150 1 rfl
theorem dX10_beside_4 : decode cX10_beside 4 = .ok (.ifCond .ne 6, 3) := dq_at dqX10_beside_p150 2 rfl
theorem dX10_beside_7 : decode cX10_beside 7 = .ok (.bipush (-2), 2) := dq_at dqX10_beside_p150 3 rfl
theorem dX10_beside_9 : decode cX10_beside 9 = .ok (.ireturn, 1) := dq_at dqX10_beside_p150 4 rfl
theorem dX10_beside_10 : decode cX10_beside 10 = .ok (.iload_n 2, 1) := dq_at dqX10_beside_p150 5 rfl
theorem dX10_beside_11 : decode cX10_beside 11 = .ok (.iconst 0, 1) := dq_at dqX10_beside_p150 6 rfl
theorem dX10_beside_12 : decode cX10_beside 12 = .ok (.iconst 1, 1) := dq_at dqX10_beside_p150 7 rfl
theorem dX10_beside_13 : decode cX10_beside 13 = .ok (.invokestatic 93, 3) := dq_at dqX10_beside_p150 8 rfl
theorem dX10_beside_16 : decode cX10_beside 16 = .ok (.ifCond .ne 6, 3) := dq_at dqX10_beside_p150 9 rfl
theorem dX10_beside_19 : decode cX10_beside 19 = .ok (.bipush (-3), 2) := dq_at dqX10_beside_p150 10 rfl
theorem dX10_beside_21 : decode cX10_beside 21 = .ok (.ireturn, 1) := dq_at dqX10_beside_p150 11 rfl
theorem dX10_beside_22 : decode cX10_beside 22 = .ok (.aload_n 0, 1) := dq_at dqX10_beside_p150 12 rfl
theorem dX10_beside_23 : decode cX10_beside 23 = .ok (.iload_n 1, 1) := dq_at dqX10_beside_p150 13 rfl
theorem dX10_beside_24 : decode cX10_beside 24 = .ok (.invokevirtual 121, 3) := dq_at dqX10_beside_p150 14 rfl
theorem dX10_beside_27 : decode cX10_beside 27 = .ok (.istore_n 3, 1) := dq_at dqX10_beside_p150 15 rfl
theorem dX10_beside_28 : decode cX10_beside 28 = .ok (.iconst (-1), 1) := dq_at dqX10_beside_p150 16 rfl
theorem dX10_beside_29 : decode cX10_beside 29 = .ok (.istore 4, 2) := dq_at dqX10_beside_p150 17 rfl
theorem dX10_beside_31 : decode cX10_beside 31 = .ok (.iload_n 3, 1) := dq_at dqX10_beside_p150 18 rfl
theorem dX10_beside_32 : decode cX10_beside 32 = .ok (.iconst (-1), 1) := dq_at dqX10_beside_p150 19 rfl
theorem dX10_beside_33 : decode cX10_beside 33 = .ok (.if_icmp .eq 75, 3) := dq_at dqX10_beside_p151 0 rfl
theorem dX10_beside_36 : decode cX10_beside 36 = .ok (.iload_n 3, 1) := dq_at dqX10_beside_p151 1 rfl
theorem dX10_beside_37 : decode cX10_beside 37 = .ok (.iload_n 2, 1) := dq_at dqX10_beside_p151 2 rfl
theorem dX10_beside_38 : decode cX10_beside 38 = .ok (.ifCond .ne 7, 3) := dq_at dqX10_beside_p151 3 rfl
theorem dX10_beside_41 : decode cX10_beside 41 = .ok (.iconst (-1), 1) := dq_at dqX10_beside_p151 4 rfl
theorem dX10_beside_42 : decode cX10_beside 42 = .ok (.goto 4, 3) := dq_at dqX10_beside_p151 5 rfl
theorem dX10_beside_45 : decode cX10_beside 45 = .ok (.iconst 1, 1) := dq_at dqX10_beside_p151 6 rfl
theorem dX10_beside_46 : decode cX10_beside 46 = .ok (.iadd, 1) := dq_at dqX10_beside_p151 7 rfl
theorem dX10_beside_47 : decode cX10_beside 47 = .ok (.istore 5, 2) := dq_at dqX10_beside_p151 8 rfl
theorem dX10_beside_49 : decode cX10_beside 49 = .ok (.iload 5, 2) := dq_at dqX10_beside_p151 9 rfl
theorem dX10_beside_51 : decode cX10_beside 51 = .ok (.iload_n 3, 1) := dq_at dqX10_beside_p151 10 rfl
theorem dX10_beside_52 : decode cX10_beside 52 = .ok (.bipush 6, 2) := dq_at dqX10_beside_p151 11 rfl
theorem dX10_beside_54 : decode cX10_beside 54 = .ok (.idiv, 1) := dq_at dqX10_beside_p151 12 rfl
theorem dX10_beside_55 : decode cX10_beside 55 = .ok (.bipush 6, 2) := dq_at dqX10_beside_p151 13 rfl
theorem dX10_beside_57 : decode cX10_beside 57 = .ok (.imul, 1) := dq_at dqX10_beside_p151 14 rfl
theorem dX10_beside_58 : decode cX10_beside 58 = .ok (.if_icmp .lt 50, 3) := dq_at dqX10_beside_p151 15 rfl
theorem dX10_beside_61 : decode cX10_beside 61 = .ok (.iload 5, 2) := dq_at dqX10_beside_p151 16 rfl
theorem dX10_beside_63 : decode cX10_beside 63 = .ok (.iload_n 3, 1) := dq_at dqX10_beside_p151 17 rfl
theorem dX10_beside_64 : decode cX10_beside 64 = .ok (.bipush 6, 2) := dq_at dqX10_beside_p151 18 rfl
theorem dX10_beside_66 : decode cX10_beside 66 = .ok (.idiv, 1) := dq_at dqX10_beside_p151 19 rfl
theorem dX10_beside_67 : decode cX10_beside 67 = .ok (.bipush 6, 2) := dq_at dqX10_beside_p152 0 rfl
theorem dX10_beside_69 : decode cX10_beside 69 = .ok (.imul, 1) := dq_at dqX10_beside_p152 1 rfl
theorem dX10_beside_70 : decode cX10_beside 70 = .ok (.bipush 6, 2) := dq_at dqX10_beside_p152 2 rfl
theorem dX10_beside_72 : decode cX10_beside 72 = .ok (.iadd, 1) := dq_at dqX10_beside_p152 3 rfl
theorem dX10_beside_73 : decode cX10_beside 73 = .ok (.if_icmp .ge 35, 3) := dq_at dqX10_beside_p152 4 rfl
theorem dX10_beside_76 : decode cX10_beside 76 = .ok (.iload 4, 2) := dq_at dqX10_beside_p152 5 rfl
theorem dX10_beside_78 : decode cX10_beside 78 = .ok (.iconst (-1), 1) := dq_at dqX10_beside_p152 6 rfl
theorem dX10_beside_79 : decode cX10_beside 79 = .ok (.if_icmp .ne 29, 3) := dq_at dqX10_beside_p152 7 rfl
theorem dX10_beside_82 : decode cX10_beside 82 = .ok (.aload_n 0, 1) := dq_at dqX10_beside_p152 8 rfl
theorem dX10_beside_83 : decode cX10_beside 83 = .ok (.getfield 32, 3) := dq_at dqX10_beside_p152 9 rfl
theorem dX10_beside_86 : decode cX10_beside 86 = .ok (.iload 5, 2) := dq_at dqX10_beside_p152 10 rfl
theorem dX10_beside_88 : decode cX10_beside 88 = .ok (.iaload, 1) := dq_at dqX10_beside_p152 11 rfl
theorem dX10_beside_89 : decode cX10_beside 89 = .ok (.istore 4, 2) := dq_at dqX10_beside_p152 12 rfl
theorem dX10_beside_91 : decode cX10_beside 91 = .ok (.iload 5, 2) := dq_at dqX10_beside_p152 13 rfl
theorem dX10_beside_93 : decode cX10_beside 93 = .ok (.iload_n 2, 1) := dq_at dqX10_beside_p152 14 rfl
theorem dX10_beside_94 : decode cX10_beside 94 = .ok (.ifCond .ne 7, 3) := dq_at dqX10_beside_p152 15 rfl
theorem dX10_beside_97 : decode cX10_beside 97 = .ok (.iconst (-1), 1) := dq_at dqX10_beside_p152 16 rfl
theorem dX10_beside_98 : decode cX10_beside 98 = .ok (.goto 4, 3) := dq_at dqX10_beside_p152 17 rfl
theorem dX10_beside_101 : decode cX10_beside 101 = .ok (.iconst 1, 1) := dq_at dqX10_beside_p152 18 rfl
theorem dX10_beside_102 : decode cX10_beside 102 = .ok (.iadd, 1) := dq_at dqX10_beside_p152 19 rfl
theorem dX10_beside_103 : decode cX10_beside 103 = .ok (.istore 5, 2) := dq_at dqX10_beside_p153 0 rfl
theorem dX10_beside_105 : decode cX10_beside 105 = .ok (.goto (-56), 3) := dq_at dqX10_beside_p153 1 rfl
theorem dX10_beside_108 : decode cX10_beside 108 = .ok (.iload 4, 2) := dq_at dqX10_beside_p153 2 rfl
theorem dX10_beside_110 : decode cX10_beside 110 = .ok (.ireturn, 1) := dq_at dqX10_beside_p153 3 rfl
theorem dX10_answer_0 : decode cX10_answer 0 = .ok (.iload_n 1, 1) := dq_at dqX10_answer_p150 0 rfl
theorem dX10_answer_1 : decode cX10_answer 1 = .ok (.invokestatic 254, 3) := dq_at dqX10_answer_p150 1 rfl
theorem dX10_answer_4 : decode cX10_answer 4 = .ok (.ifCond .ne 6, 3) := dq_at dqX10_answer_p150 2 rfl
theorem dX10_answer_7 : decode cX10_answer 7 = .ok (.bipush (-2), 2) := dq_at dqX10_answer_p150 3 rfl
theorem dX10_answer_9 : decode cX10_answer 9 = .ok (.ireturn, 1) := dq_at dqX10_answer_p150 4 rfl
theorem dX10_answer_10 : decode cX10_answer 10 = .ok (.iload_n 2, 1) := dq_at dqX10_answer_p150 5 rfl
theorem dX10_answer_11 : decode cX10_answer 11 = .ok (.iconst 1, 1) := dq_at dqX10_answer_p150 6 rfl
theorem dX10_answer_12 : decode cX10_answer 12 = .ok (.bipush 60, 2) := dq_at dqX10_answer_p150 7 rfl
theorem dX10_answer_14 : decode cX10_answer 14 = .ok (.invokestatic 93, 3) := dq_at dqX10_answer_p150 8 rfl
theorem dX10_answer_17 : decode cX10_answer 17 = .ok (.ifCond .ne 6, 3) := dq_at dqX10_answer_p150 9 rfl
theorem dX10_answer_20 : decode cX10_answer 20 = .ok (.bipush (-3), 2) := dq_at dqX10_answer_p150 10 rfl
theorem dX10_answer_22 : decode cX10_answer 22 = .ok (.ireturn, 1) := dq_at dqX10_answer_p150 11 rfl
theorem dX10_answer_23 : decode cX10_answer 23 = .ok (.aload_n 0, 1) := dq_at dqX10_answer_p150 12 rfl
theorem dX10_answer_24 : decode cX10_answer 24 = .ok (.getfield 80, 3) := dq_at dqX10_answer_p150 13 rfl
theorem dX10_answer_27 : decode cX10_answer 27 = .ok (.iload_n 1, 1) := dq_at dqX10_answer_p150 14 rfl
theorem dX10_answer_28 : decode cX10_answer 28 = .ok (.iaload, 1) := dq_at dqX10_answer_p150 15 rfl
theorem dX10_answer_29 : decode cX10_answer 29 = .ok (.bipush 12, 2) := dq_at dqX10_answer_p150 16 rfl
theorem dX10_answer_31 : decode cX10_answer 31 = .ok (.if_icmp .ne 6, 3) := dq_at dqX10_answer_p150 17 rfl
theorem dX10_answer_34 : decode cX10_answer 34 = .ok (.bipush (-5), 2) := dq_at dqX10_answer_p150 18 rfl
theorem dX10_answer_36 : decode cX10_answer 36 = .ok (.ireturn, 1) := dq_at dqX10_answer_p150 19 rfl
theorem dX10_answer_37 : decode cX10_answer 37 = .ok (.aload_n 0, 1) := dq_at dqX10_answer_p151 0 rfl
theorem dX10_answer_38 : decode cX10_answer 38 = .ok (.getfield 83, 3) := dq_at dqX10_answer_p151 1 rfl
theorem dX10_answer_41 : decode cX10_answer 41 = .ok (.bipush 12, 2) := dq_at dqX10_answer_p151 2 rfl
theorem dX10_answer_43 : decode cX10_answer 43 = .ok (.iload_n 1, 1) := dq_at dqX10_answer_p151 3 rfl
theorem dX10_answer_44 : decode cX10_answer 44 = .ok (.imul, 1) := dq_at dqX10_answer_p151 4 rfl
theorem dX10_answer_45 : decode cX10_answer 45 = .ok (.aload_n 0, 1) := dq_at dqX10_answer_p151 5 rfl
theorem dX10_answer_46 : decode cX10_answer 46 = .ok (.getfield 80, 3) := dq_at dqX10_answer_p151 6 rfl
theorem dX10_answer_49 : decode cX10_answer 49 = .ok (.iload_n 1, 1) := dq_at dqX10_answer_p151 7 rfl
theorem dX10_answer_50 : decode cX10_answer 50 = .ok (.iaload, 1) := dq_at dqX10_answer_p151 8 rfl
theorem dX10_answer_51 : decode cX10_answer 51 = .ok (.iadd, 1) := dq_at dqX10_answer_p151 9 rfl
theorem dX10_answer_52 : decode cX10_answer 52 = .ok (.iload_n 2, 1) := dq_at dqX10_answer_p151 10 rfl
theorem dX10_answer_53 : decode cX10_answer 53 = .ok (.iastore, 1) := dq_at dqX10_answer_p151 11 rfl
theorem dX10_answer_54 : decode cX10_answer 54 = .ok (.aload_n 0, 1) := dq_at dqX10_answer_p151 12 rfl
theorem dX10_answer_55 : decode cX10_answer 55 = .ok (.getfield 86, 3) := dq_at dqX10_answer_p151 13 rfl
theorem dX10_answer_58 : decode cX10_answer 58 = .ok (.bipush 12, 2) := dq_at dqX10_answer_p151 14 rfl
theorem dX10_answer_60 : decode cX10_answer 60 = .ok (.iload_n 1, 1) := dq_at dqX10_answer_p151 15 rfl
theorem dX10_answer_61 : decode cX10_answer 61 = .ok (.imul, 1) := dq_at dqX10_answer_p151 16 rfl
theorem dX10_answer_62 : decode cX10_answer 62 = .ok (.aload_n 0, 1) := dq_at dqX10_answer_p151 17 rfl
theorem dX10_answer_63 : decode cX10_answer 63 = .ok (.getfield 80, 3) := dq_at dqX10_answer_p151 18 rfl
theorem dX10_answer_66 : decode cX10_answer 66 = .ok (.iload_n 1, 1) := dq_at dqX10_answer_p151 19 rfl
theorem dX10_answer_67 : decode cX10_answer 67 = .ok (.iaload, 1) := dq_at dqX10_answer_p152 0 rfl
theorem dX10_answer_68 : decode cX10_answer 68 = .ok (.iadd, 1) := dq_at dqX10_answer_p152 1 rfl
theorem dX10_answer_69 : decode cX10_answer 69 = .ok (.iload_n 3, 1) := dq_at dqX10_answer_p152 2 rfl
theorem dX10_answer_70 : decode cX10_answer 70 = .ok (.bastore, 1) := dq_at dqX10_answer_p152 3 rfl
theorem dX10_answer_71 : decode cX10_answer 71 = .ok (.aload_n 0, 1) := dq_at dqX10_answer_p152 4 rfl
theorem dX10_answer_72 : decode cX10_answer 72 = .ok (.getfield 80, 3) := dq_at dqX10_answer_p152 5 rfl
theorem dX10_answer_75 : decode cX10_answer 75 = .ok (.iload_n 1, 1) := dq_at dqX10_answer_p152 6 rfl
theorem dX10_answer_76 : decode cX10_answer 76 = .ok (.dup2, 1) := dq_at dqX10_answer_p152 7 rfl
theorem dX10_answer_77 : decode cX10_answer 77 = .ok (.iaload, 1) := dq_at dqX10_answer_p152 8 rfl
theorem dX10_answer_78 : decode cX10_answer 78 = .ok (.iconst 1, 1) := dq_at dqX10_answer_p152 9 rfl
theorem dX10_answer_79 : decode cX10_answer 79 = .ok (.iadd, 1) := dq_at dqX10_answer_p152 10 rfl
theorem dX10_answer_80 : decode cX10_answer 80 = .ok (.iastore, 1) := dq_at dqX10_answer_p152 11 rfl
theorem dX10_answer_81 : decode cX10_answer 81 = .ok (.aload_n 0, 1) := dq_at dqX10_answer_p152 12 rfl
theorem dX10_answer_82 : decode cX10_answer 82 = .ok (.getfield 80, 3) := dq_at dqX10_answer_p152 13 rfl
theorem dX10_answer_85 : decode cX10_answer 85 = .ok (.iload_n 1, 1) := dq_at dqX10_answer_p152 14 rfl
theorem dX10_answer_86 : decode cX10_answer 86 = .ok (.iaload, 1) := dq_at dqX10_answer_p152 15 rfl
theorem dX10_answer_87 : decode cX10_answer 87 = .ok (.ireturn, 1) := dq_at dqX10_answer_p152 16 rfl
theorem dX10_isRight_0 : decode cX10_isRight 0 = .ok (.bipush 100, 2) := dq_at dqX10_isRight_p150 0 rfl
theorem dX10_isRight_2 : decode cX10_isRight 2 = .ok (.iload_n 0, 1) := dq_at dqX10_isRight_p150 1 rfl
theorem dX10_isRight_3 : decode cX10_isRight 3 = .ok (.bipush 9, 2) := dq_at dqX10_isRight_p150 2 rfl
theorem dX10_isRight_5 : decode cX10_isRight 5 = .ok (.idiv, 1) := dq_at dqX10_isRight_p150 3 rfl
theorem dX10_isRight_6 : decode cX10_isRight 6 = .ok (.iconst 1, 1) := dq_at dqX10_isRight_p150 4 rfl
theorem dX10_isRight_7 : decode cX10_isRight 7 = .ok (.iadd, 1) := dq_at dqX10_isRight_p150 5 rfl
theorem dX10_isRight_8 : decode cX10_isRight 8 = .ok (.iload_n 1, 1) := dq_at dqX10_isRight_p150 6 rfl
theorem dX10_isRight_9 : decode cX10_isRight 9 = .ok (.imul, 1) := dq_at dqX10_isRight_p150 7 rfl
theorem dX10_isRight_10 : decode cX10_isRight 10 = .ok (.isub, 1) := dq_at dqX10_isRight_p150 8 rfl
theorem dX10_isRight_11 : decode cX10_isRight 11 = .ok (.bipush 10, 2) := dq_at dqX10_isRight_p150 9 rfl
theorem dX10_isRight_13 : decode cX10_isRight 13 = .ok (.iload_n 0, 1) := dq_at dqX10_isRight_p150 10 rfl
theorem dX10_isRight_14 : decode cX10_isRight 14 = .ok (.bipush 9, 2) := dq_at dqX10_isRight_p150 11 rfl
theorem dX10_isRight_16 : decode cX10_isRight 16 = .ok (.irem, 1) := dq_at dqX10_isRight_p150 12 rfl
theorem dX10_isRight_17 : decode cX10_isRight 17 = .ok (.iconst 1, 1) := dq_at dqX10_isRight_p150 13 rfl
theorem dX10_isRight_18 : decode cX10_isRight 18 = .ok (.iadd, 1) := dq_at dqX10_isRight_p150 14 rfl
theorem dX10_isRight_19 : decode cX10_isRight 19 = .ok (.imul, 1) := dq_at dqX10_isRight_p150 15 rfl
theorem dX10_isRight_20 : decode cX10_isRight 20 = .ok (.if_icmp .lt 7, 3) := dq_at dqX10_isRight_p150 16 rfl
theorem dX10_isRight_23 : decode cX10_isRight 23 = .ok (.iconst 1, 1) := dq_at dqX10_isRight_p150 17 rfl
theorem dX10_isRight_24 : decode cX10_isRight 24 = .ok (.goto 4, 3) := dq_at dqX10_isRight_p150 18 rfl
theorem dX10_isRight_27 : decode cX10_isRight 27 = .ok (.iconst 0, 1) := dq_at dqX10_isRight_p150 19 rfl
theorem dX10_agrees_0 : decode cX10_agrees 0 = .ok (.iconst 0, 1) := dq_at dqX10_agrees_p150 0 rfl
theorem dX10_agrees_1 : decode cX10_agrees 1 = .ok (.istore_n 3, 1) := dq_at dqX10_agrees_p150 1 rfl
theorem dX10_agrees_2 : decode cX10_agrees 2 = .ok (.iconst 0, 1) := dq_at dqX10_agrees_p150 2 rfl
theorem dX10_agrees_3 : decode cX10_agrees 3 = .ok (.istore 4, 2) := dq_at dqX10_agrees_p150 3 rfl
theorem dX10_agrees_5 : decode cX10_agrees 5 = .ok (.iload 4, 2) := dq_at dqX10_agrees_p150 4 rfl
theorem dX10_agrees_7 : decode cX10_agrees 7 = .ok (.aload_n 0, 1) := dq_at dqX10_agrees_p150 5 rfl
theorem dX10_agrees_8 : decode cX10_agrees 8 = .ok (.getfield 80, 3) := dq_at dqX10_agrees_p150 6 rfl
theorem dX10_agrees_11 : decode cX10_agrees 11 = .ok (.iload_n 1, 1) := dq_at dqX10_agrees_p150 7 rfl
theorem dX10_agrees_12 : decode cX10_agrees 12 = .ok (.iaload, 1) := dq_at dqX10_agrees_p150 8 rfl
theorem dX10_agrees_13 : decode cX10_agrees 13 = .ok (.if_icmp .ge 48, 3) := dq_at dqX10_agrees_p150 9 rfl
theorem dX10_agrees_16 : decode cX10_agrees 16 = .ok (.iload_n 3, 1) := dq_at dqX10_agrees_p150 10 rfl
theorem dX10_agrees_17 : decode cX10_agrees 17 = .ok (.iload_n 2, 1) := dq_at dqX10_agrees_p150 11 rfl
theorem dX10_agrees_18 : decode cX10_agrees 18 = .ok (.aload_n 0, 1) := dq_at dqX10_agrees_p150 12 rfl
theorem dX10_agrees_19 : decode cX10_agrees 19 = .ok (.getfield 83, 3) := dq_at dqX10_agrees_p150 13 rfl
theorem dX10_agrees_22 : decode cX10_agrees 22 = .ok (.bipush 12, 2) := dq_at dqX10_agrees_p150 14 rfl
theorem dX10_agrees_24 : decode cX10_agrees 24 = .ok (.iload_n 1, 1) := dq_at dqX10_agrees_p150 15 rfl
theorem dX10_agrees_25 : decode cX10_agrees 25 = .ok (.imul, 1) := dq_at dqX10_agrees_p150 16 rfl
theorem dX10_agrees_26 : decode cX10_agrees 26 = .ok (.iload 4, 2) := dq_at dqX10_agrees_p150 17 rfl
theorem dX10_agrees_28 : decode cX10_agrees 28 = .ok (.iadd, 1) := dq_at dqX10_agrees_p150 18 rfl
theorem dX10_agrees_29 : decode cX10_agrees 29 = .ok (.iaload, 1) := dq_at dqX10_agrees_p150 19 rfl
theorem dX10_agrees_30 : decode cX10_agrees 30 = .ok (.invokestatic 257, 3) := dq_at dqX10_agrees_p151 0 rfl
theorem dX10_agrees_33 : decode cX10_agrees 33 = .ok (.aload_n 0, 1) := dq_at dqX10_agrees_p151 1 rfl
theorem dX10_agrees_34 : decode cX10_agrees 34 = .ok (.getfield 86, 3) := dq_at dqX10_agrees_p151 2 rfl
theorem dX10_agrees_37 : decode cX10_agrees 37 = .ok (.bipush 12, 2) := dq_at dqX10_agrees_p151 3 rfl
theorem dX10_agrees_39 : decode cX10_agrees 39 = .ok (.iload_n 1, 1) := dq_at dqX10_agrees_p151 4 rfl
theorem dX10_agrees_40 : decode cX10_agrees 40 = .ok (.imul, 1) := dq_at dqX10_agrees_p151 5 rfl
theorem dX10_agrees_41 : decode cX10_agrees 41 = .ok (.iload 4, 2) := dq_at dqX10_agrees_p151 6 rfl
theorem dX10_agrees_43 : decode cX10_agrees 43 = .ok (.iadd, 1) := dq_at dqX10_agrees_p151 7 rfl
theorem dX10_agrees_44 : decode cX10_agrees 44 = .ok (.baload, 1) := dq_at dqX10_agrees_p151 8 rfl
theorem dX10_agrees_45 : decode cX10_agrees 45 = .ok (.if_icmp .ne 7, 3) := dq_at dqX10_agrees_p151 9 rfl
theorem dX10_agrees_48 : decode cX10_agrees 48 = .ok (.iconst 1, 1) := dq_at dqX10_agrees_p151 10 rfl
theorem dX10_agrees_49 : decode cX10_agrees 49 = .ok (.goto 4, 3) := dq_at dqX10_agrees_p151 11 rfl
theorem dX10_agrees_52 : decode cX10_agrees 52 = .ok (.iconst 0, 1) := dq_at dqX10_agrees_p151 12 rfl
theorem dX10_agrees_53 : decode cX10_agrees 53 = .ok (.iadd, 1) := dq_at dqX10_agrees_p151 13 rfl
theorem dX10_agrees_54 : decode cX10_agrees 54 = .ok (.istore_n 3, 1) := dq_at dqX10_agrees_p151 14 rfl
theorem dX10_agrees_55 : decode cX10_agrees 55 = .ok (.iinc 4 1, 3) := dq_at dqX10_agrees_p151 15 rfl
theorem dX10_agrees_58 : decode cX10_agrees 58 = .ok (.goto (-53), 3) := dq_at dqX10_agrees_p151 16 rfl
theorem dX10_agrees_61 : decode cX10_agrees 61 = .ok (.iload_n 3, 1) := dq_at dqX10_agrees_p151 17 rfl
theorem dX10_agrees_62 : decode cX10_agrees 62 = .ok (.ireturn, 1) := dq_at dqX10_agrees_p151 18 rfl
theorem dX10_partsMost_0 : decode cX10_partsMost 0 = .ok (.iconst (-1), 1) := dq_at dqX10_partsMost_p150 0 rfl
theorem dX10_partsMost_1 : decode cX10_partsMost 1 = .ok (.istore_n 2, 1) := dq_at dqX10_partsMost_p150 1 rfl
theorem dX10_partsMost_2 : decode cX10_partsMost 2 = .ok (.sipush 1000, 3) := dq_at dqX10_partsMost_p150 2 rfl
theorem dX10_partsMost_5 : decode cX10_partsMost 5 = .ok (.istore_n 3, 1) := dq_at dqX10_partsMost_p150 3 rfl
theorem dX10_partsMost_6 : decode cX10_partsMost 6 = .ok (.iconst 0, 1) := dq_at dqX10_partsMost_p150 4 rfl
theorem dX10_partsMost_7 : decode cX10_partsMost 7 = .ok (.istore 4, 2) := dq_at dqX10_partsMost_p150 5 rfl
theorem dX10_partsMost_9 : decode cX10_partsMost 9 = .ok (.iconst 1, 1) := dq_at dqX10_partsMost_p150 6 rfl
theorem dX10_partsMost_10 : decode cX10_partsMost 10 = .ok (.istore 5, 2) := dq_at dqX10_partsMost_p150 7 rfl
theorem dX10_partsMost_12 : decode cX10_partsMost 12 = .ok (.iload 5, 2) := dq_at dqX10_partsMost_p150 8 rfl
theorem dX10_partsMost_14 : decode cX10_partsMost 14 = .ok (.bipush 61, 2) := dq_at dqX10_partsMost_p150 9 rfl
theorem dX10_partsMost_16 : decode cX10_partsMost 16 = .ok (.if_icmp .ge 136, 3) := dq_at dqX10_partsMost_p150 10 rfl
theorem dX10_partsMost_19 : decode cX10_partsMost 19 = .ok (.iconst 0, 1) := dq_at dqX10_partsMost_p150 11 rfl
theorem dX10_partsMost_20 : decode cX10_partsMost 20 = .ok (.istore 6, 2) := dq_at dqX10_partsMost_p150 12 rfl
theorem dX10_partsMost_22 : decode cX10_partsMost 22 = .ok (.iconst 0, 1) := dq_at dqX10_partsMost_p150 13 rfl
theorem dX10_partsMost_23 : decode cX10_partsMost 23 = .ok (.istore 7, 2) := dq_at dqX10_partsMost_p150 14 rfl
theorem dX10_partsMost_25 : decode cX10_partsMost 25 = .ok (.iload 7, 2) := dq_at dqX10_partsMost_p150 15 rfl
theorem dX10_partsMost_27 : decode cX10_partsMost 27 = .ok (.bipush 81, 2) := dq_at dqX10_partsMost_p150 16 rfl
theorem dX10_partsMost_29 : decode cX10_partsMost 29 = .ok (.if_icmp .ge 76, 3) := dq_at dqX10_partsMost_p150 17 rfl
theorem dX10_partsMost_32 : decode cX10_partsMost 32 = .ok (.aload_n 0, 1) := dq_at dqX10_partsMost_p150 18 rfl
theorem dX10_partsMost_33 : decode cX10_partsMost 33 = .ok (.iload_n 1, 1) := dq_at dqX10_partsMost_p150 19 rfl
theorem dX10_partsMost_34 : decode cX10_partsMost 34 = .ok (.iload 7, 2) := dq_at dqX10_partsMost_p151 0 rfl
theorem dX10_partsMost_36 : decode cX10_partsMost 36 = .ok (.invokevirtual 260, 3) := dq_at dqX10_partsMost_p151 1 rfl
theorem dX10_partsMost_39 : decode cX10_partsMost 39 = .ok (.aload_n 0, 1) := dq_at dqX10_partsMost_p151 2 rfl
theorem dX10_partsMost_40 : decode cX10_partsMost 40 = .ok (.getfield 80, 3) := dq_at dqX10_partsMost_p151 3 rfl
theorem dX10_partsMost_43 : decode cX10_partsMost 43 = .ok (.iload_n 1, 1) := dq_at dqX10_partsMost_p151 4 rfl
theorem dX10_partsMost_44 : decode cX10_partsMost 44 = .ok (.iaload, 1) := dq_at dqX10_partsMost_p151 5 rfl
theorem dX10_partsMost_45 : decode cX10_partsMost 45 = .ok (.if_icmp .ne 7, 3) := dq_at dqX10_partsMost_p151 6 rfl
theorem dX10_partsMost_48 : decode cX10_partsMost 48 = .ok (.iconst 1, 1) := dq_at dqX10_partsMost_p151 7 rfl
theorem dX10_partsMost_49 : decode cX10_partsMost 49 = .ok (.goto 4, 3) := dq_at dqX10_partsMost_p151 8 rfl
theorem dX10_partsMost_52 : decode cX10_partsMost 52 = .ok (.iconst 0, 1) := dq_at dqX10_partsMost_p151 9 rfl
theorem dX10_partsMost_53 : decode cX10_partsMost 53 = .ok (.istore 8, 2) := dq_at dqX10_partsMost_p151 10 rfl
theorem dX10_partsMost_55 : decode cX10_partsMost 55 = .ok (.iload 4, 2) := dq_at dqX10_partsMost_p151 11 rfl
theorem dX10_partsMost_57 : decode cX10_partsMost 57 = .ok (.iload 8, 2) := dq_at dqX10_partsMost_p151 12 rfl
theorem dX10_partsMost_59 : decode cX10_partsMost 59 = .ok (.ifCond .eq 7, 3) := dq_at dqX10_partsMost_p151 13 rfl
theorem dX10_partsMost_62 : decode cX10_partsMost 62 = .ok (.iconst 1, 1) := dq_at dqX10_partsMost_p151 14 rfl
theorem dX10_partsMost_63 : decode cX10_partsMost 63 = .ok (.goto 4, 3) := dq_at dqX10_partsMost_p151 15 rfl
theorem dX10_partsMost_66 : decode cX10_partsMost 66 = .ok (.iconst 0, 1) := dq_at dqX10_partsMost_p151 16 rfl
theorem dX10_partsMost_67 : decode cX10_partsMost 67 = .ok (.iadd, 1) := dq_at dqX10_partsMost_p151 17 rfl
theorem dX10_partsMost_68 : decode cX10_partsMost 68 = .ok (.istore 4, 2) := dq_at dqX10_partsMost_p151 18 rfl
theorem dX10_partsMost_70 : decode cX10_partsMost 70 = .ok (.iload 6, 2) := dq_at dqX10_partsMost_p151 19 rfl
theorem dX10_partsMost_72 : decode cX10_partsMost 72 = .ok (.iload 8, 2) := dq_at dqX10_partsMost_p152 0 rfl
theorem dX10_partsMost_74 : decode cX10_partsMost 74 = .ok (.ifCond .eq 21, 3) := dq_at dqX10_partsMost_p152 1 rfl
theorem dX10_partsMost_77 : decode cX10_partsMost 77 = .ok (.iload 7, 2) := dq_at dqX10_partsMost_p152 2 rfl
theorem dX10_partsMost_79 : decode cX10_partsMost 79 = .ok (.iload 5, 2) := dq_at dqX10_partsMost_p152 3 rfl
theorem dX10_partsMost_81 : decode cX10_partsMost 81 = .ok (.invokestatic 257, 3) := dq_at dqX10_partsMost_p152 4 rfl
theorem dX10_partsMost_84 : decode cX10_partsMost 84 = .ok (.ifCond .eq 7, 3) := dq_at dqX10_partsMost_p152 5 rfl
theorem dX10_partsMost_87 : decode cX10_partsMost 87 = .ok (.iconst 1, 1) := dq_at dqX10_partsMost_p152 6 rfl
theorem dX10_partsMost_88 : decode cX10_partsMost 88 = .ok (.goto 8, 3) := dq_at dqX10_partsMost_p152 7 rfl
theorem dX10_partsMost_91 : decode cX10_partsMost 91 = .ok (.iconst (-1), 1) := dq_at dqX10_partsMost_p152 8 rfl
theorem dX10_partsMost_92 : decode cX10_partsMost 92 = .ok (.goto 4, 3) := dq_at dqX10_partsMost_p152 9 rfl
theorem dX10_partsMost_95 : decode cX10_partsMost 95 = .ok (.iconst 0, 1) := dq_at dqX10_partsMost_p152 10 rfl
theorem dX10_partsMost_96 : decode cX10_partsMost 96 = .ok (.iadd, 1) := dq_at dqX10_partsMost_p152 11 rfl
theorem dX10_partsMost_97 : decode cX10_partsMost 97 = .ok (.istore 6, 2) := dq_at dqX10_partsMost_p152 12 rfl
theorem dX10_partsMost_99 : decode cX10_partsMost 99 = .ok (.iinc 7 1, 3) := dq_at dqX10_partsMost_p152 13 rfl
theorem dX10_partsMost_102 : decode cX10_partsMost 102 = .ok (.goto (-77), 3) := dq_at dqX10_partsMost_p152 14 rfl
theorem dX10_partsMost_105 : decode cX10_partsMost 105 = .ok (.iload 6, 2) := dq_at dqX10_partsMost_p152 15 rfl
theorem dX10_partsMost_107 : decode cX10_partsMost 107 = .ok (.ifCond .ge 9, 3) := dq_at dqX10_partsMost_p152 16 rfl
theorem dX10_partsMost_110 : decode cX10_partsMost 110 = .ok (.iload 6, 2) := dq_at dqX10_partsMost_p152 17 rfl
theorem dX10_partsMost_112 : decode cX10_partsMost 112 = .ok (.ineg, 1) := dq_at dqX10_partsMost_p152 18 rfl
theorem dX10_partsMost_113 : decode cX10_partsMost 113 = .ok (.goto 5, 3) := dq_at dqX10_partsMost_p152 19 rfl
theorem dX10_partsMost_116 : decode cX10_partsMost 116 = .ok (.iload 6, 2) := dq_at dqX10_partsMost_p153 0 rfl
theorem dX10_partsMost_118 : decode cX10_partsMost 118 = .ok (.istore 6, 2) := dq_at dqX10_partsMost_p153 1 rfl
theorem dX10_partsMost_120 : decode cX10_partsMost 120 = .ok (.iload 6, 2) := dq_at dqX10_partsMost_p153 2 rfl
theorem dX10_partsMost_122 : decode cX10_partsMost 122 = .ok (.iload_n 3, 1) := dq_at dqX10_partsMost_p153 3 rfl
theorem dX10_partsMost_123 : decode cX10_partsMost 123 = .ok (.if_icmp .ge 8, 3) := dq_at dqX10_partsMost_p153 4 rfl
theorem dX10_partsMost_126 : decode cX10_partsMost 126 = .ok (.iload 5, 2) := dq_at dqX10_partsMost_p153 5 rfl
theorem dX10_partsMost_128 : decode cX10_partsMost 128 = .ok (.goto 4, 3) := dq_at dqX10_partsMost_p153 6 rfl
theorem dX10_partsMost_131 : decode cX10_partsMost 131 = .ok (.iload_n 2, 1) := dq_at dqX10_partsMost_p153 7 rfl
theorem dX10_partsMost_132 : decode cX10_partsMost 132 = .ok (.istore_n 2, 1) := dq_at dqX10_partsMost_p153 8 rfl
theorem dX10_partsMost_133 : decode cX10_partsMost 133 = .ok (.iload 6, 2) := dq_at dqX10_partsMost_p153 9 rfl
theorem dX10_partsMost_135 : decode cX10_partsMost 135 = .ok (.iload_n 3, 1) := dq_at dqX10_partsMost_p153 10 rfl
theorem dX10_partsMost_136 : decode cX10_partsMost 136 = .ok (.if_icmp .ge 8, 3) := dq_at dqX10_partsMost_p153 11 rfl
theorem dX10_partsMost_139 : decode cX10_partsMost 139 = .ok (.iload 6, 2) := dq_at dqX10_partsMost_p153 12 rfl
theorem dX10_partsMost_141 : decode cX10_partsMost 141 = .ok (.goto 4, 3) := dq_at dqX10_partsMost_p153 13 rfl
theorem dX10_partsMost_144 : decode cX10_partsMost 144 = .ok (.iload_n 3, 1) := dq_at dqX10_partsMost_p153 14 rfl
theorem dX10_partsMost_145 : decode cX10_partsMost 145 = .ok (.istore_n 3, 1) := dq_at dqX10_partsMost_p153 15 rfl
theorem dX10_partsMost_146 : decode cX10_partsMost 146 = .ok (.iinc 5 1, 3) := dq_at dqX10_partsMost_p153 16 rfl
theorem dX10_partsMost_149 : decode cX10_partsMost 149 = .ok (.goto (-137), 3) := dq_at dqX10_partsMost_p153 17 rfl
theorem dX10_partsMost_152 : decode cX10_partsMost 152 = .ok (.iload 4, 2) := dq_at dqX10_partsMost_p153 18 rfl
theorem dX10_partsMost_154 : decode cX10_partsMost 154 = .ok (.ifCond .ne 7, 3) := dq_at dqX10_partsMost_p153 19 rfl
theorem dX10_partsMost_157 : decode cX10_partsMost 157 = .ok (.iconst (-1), 1) := dq_at dqX10_partsMost_p154 0 rfl
theorem dX10_partsMost_158 : decode cX10_partsMost 158 = .ok (.goto 4, 3) := dq_at dqX10_partsMost_p154 1 rfl
theorem dX10_partsMost_161 : decode cX10_partsMost 161 = .ok (.iload_n 2, 1) := dq_at dqX10_partsMost_p154 2 rfl
theorem dX10_partsMost_162 : decode cX10_partsMost 162 = .ok (.ireturn, 1) := dq_at dqX10_partsMost_p154 3 rfl
theorem dX10_pupil_0 : decode cX10_pupil 0 = .ok (.iload_n 1, 1) := dq_at dqX10_pupil_p150 0 rfl
theorem dX10_pupil_1 : decode cX10_pupil 1 = .ok (.invokestatic 254, 3) := dq_at dqX10_pupil_p150 1 rfl
theorem dX10_pupil_4 : decode cX10_pupil 4 = .ok (.ifCond .ne 6, 3) := dq_at dqX10_pupil_p150 2 rfl
theorem dX10_pupil_7 : decode cX10_pupil 7 = .ok (.bipush (-2), 2) := dq_at dqX10_pupil_p150 3 rfl
theorem dX10_pupil_9 : decode cX10_pupil 9 = .ok (.ireturn, 1) := dq_at dqX10_pupil_p150 4 rfl
theorem dX10_pupil_10 : decode cX10_pupil 10 = .ok (.iload_n 2, 1) := dq_at dqX10_pupil_p150 5 rfl
theorem dX10_pupil_11 : decode cX10_pupil 11 = .ok (.iconst 0, 1) := dq_at dqX10_pupil_p150 6 rfl
theorem dX10_pupil_12 : decode cX10_pupil 12 = .ok (.iconst 3, 1) := dq_at dqX10_pupil_p150 7 rfl
theorem dX10_pupil_13 : decode cX10_pupil 13 = .ok (.invokestatic 93, 3) := dq_at dqX10_pupil_p150 8 rfl
theorem dX10_pupil_16 : decode cX10_pupil 16 = .ok (.ifCond .ne 6, 3) := dq_at dqX10_pupil_p150 9 rfl
theorem dX10_pupil_19 : decode cX10_pupil 19 = .ok (.bipush (-3), 2) := dq_at dqX10_pupil_p150 10 rfl
theorem dX10_pupil_21 : decode cX10_pupil 21 = .ok (.ireturn, 1) := dq_at dqX10_pupil_p150 11 rfl
theorem dX10_pupil_22 : decode cX10_pupil 22 = .ok (.iconst 0, 1) := dq_at dqX10_pupil_p150 12 rfl
theorem dX10_pupil_23 : decode cX10_pupil 23 = .ok (.istore_n 3, 1) := dq_at dqX10_pupil_p150 13 rfl
theorem dX10_pupil_24 : decode cX10_pupil 24 = .ok (.iconst 0, 1) := dq_at dqX10_pupil_p150 14 rfl
theorem dX10_pupil_25 : decode cX10_pupil 25 = .ok (.istore 4, 2) := dq_at dqX10_pupil_p150 15 rfl
theorem dX10_pupil_27 : decode cX10_pupil 27 = .ok (.iconst (-1), 1) := dq_at dqX10_pupil_p150 16 rfl
theorem dX10_pupil_28 : decode cX10_pupil 28 = .ok (.istore 5, 2) := dq_at dqX10_pupil_p150 17 rfl
theorem dX10_pupil_30 : decode cX10_pupil 30 = .ok (.iconst 0, 1) := dq_at dqX10_pupil_p150 18 rfl
theorem dX10_pupil_31 : decode cX10_pupil 31 = .ok (.istore 6, 2) := dq_at dqX10_pupil_p150 19 rfl
theorem dX10_pupil_33 : decode cX10_pupil 33 = .ok (.iload 6, 2) := dq_at dqX10_pupil_p151 0 rfl
theorem dX10_pupil_35 : decode cX10_pupil 35 = .ok (.bipush 81, 2) := dq_at dqX10_pupil_p151 1 rfl
theorem dX10_pupil_37 : decode cX10_pupil 37 = .ok (.if_icmp .ge 69, 3) := dq_at dqX10_pupil_p151 2 rfl
theorem dX10_pupil_40 : decode cX10_pupil 40 = .ok (.aload_n 0, 1) := dq_at dqX10_pupil_p151 3 rfl
theorem dX10_pupil_41 : decode cX10_pupil 41 = .ok (.iload_n 1, 1) := dq_at dqX10_pupil_p151 4 rfl
theorem dX10_pupil_42 : decode cX10_pupil 42 = .ok (.iload 6, 2) := dq_at dqX10_pupil_p151 5 rfl
theorem dX10_pupil_44 : decode cX10_pupil 44 = .ok (.invokevirtual 260, 3) := dq_at dqX10_pupil_p151 6 rfl
theorem dX10_pupil_47 : decode cX10_pupil 47 = .ok (.istore 7, 2) := dq_at dqX10_pupil_p151 7 rfl
theorem dX10_pupil_49 : decode cX10_pupil 49 = .ok (.iload_n 3, 1) := dq_at dqX10_pupil_p151 8 rfl
theorem dX10_pupil_50 : decode cX10_pupil 50 = .ok (.iload 7, 2) := dq_at dqX10_pupil_p151 9 rfl
theorem dX10_pupil_52 : decode cX10_pupil 52 = .ok (.aload_n 0, 1) := dq_at dqX10_pupil_p151 10 rfl
theorem dX10_pupil_53 : decode cX10_pupil 53 = .ok (.getfield 80, 3) := dq_at dqX10_pupil_p151 11 rfl
theorem dX10_pupil_56 : decode cX10_pupil 56 = .ok (.iload_n 1, 1) := dq_at dqX10_pupil_p151 12 rfl
theorem dX10_pupil_57 : decode cX10_pupil 57 = .ok (.iaload, 1) := dq_at dqX10_pupil_p151 13 rfl
theorem dX10_pupil_58 : decode cX10_pupil 58 = .ok (.if_icmp .ne 7, 3) := dq_at dqX10_pupil_p151 14 rfl
theorem dX10_pupil_61 : decode cX10_pupil 61 = .ok (.iconst 1, 1) := dq_at dqX10_pupil_p151 15 rfl
theorem dX10_pupil_62 : decode cX10_pupil 62 = .ok (.goto 4, 3) := dq_at dqX10_pupil_p151 16 rfl
theorem dX10_pupil_65 : decode cX10_pupil 65 = .ok (.iconst 0, 1) := dq_at dqX10_pupil_p151 17 rfl
theorem dX10_pupil_66 : decode cX10_pupil 66 = .ok (.iadd, 1) := dq_at dqX10_pupil_p151 18 rfl
theorem dX10_pupil_67 : decode cX10_pupil 67 = .ok (.istore_n 3, 1) := dq_at dqX10_pupil_p151 19 rfl
theorem dX10_pupil_68 : decode cX10_pupil 68 = .ok (.iload 7, 2) := dq_at dqX10_pupil_p152 0 rfl
theorem dX10_pupil_70 : decode cX10_pupil 70 = .ok (.iload 5, 2) := dq_at dqX10_pupil_p152 1 rfl
theorem dX10_pupil_72 : decode cX10_pupil 72 = .ok (.if_icmp .le 8, 3) := dq_at dqX10_pupil_p152 2 rfl
theorem dX10_pupil_75 : decode cX10_pupil 75 = .ok (.iload 6, 2) := dq_at dqX10_pupil_p152 3 rfl
theorem dX10_pupil_77 : decode cX10_pupil 77 = .ok (.goto 5, 3) := dq_at dqX10_pupil_p152 4 rfl
theorem dX10_pupil_80 : decode cX10_pupil 80 = .ok (.iload 4, 2) := dq_at dqX10_pupil_p152 5 rfl
theorem dX10_pupil_82 : decode cX10_pupil 82 = .ok (.istore 4, 2) := dq_at dqX10_pupil_p152 6 rfl
theorem dX10_pupil_84 : decode cX10_pupil 84 = .ok (.iload 7, 2) := dq_at dqX10_pupil_p152 7 rfl
theorem dX10_pupil_86 : decode cX10_pupil 86 = .ok (.iload 5, 2) := dq_at dqX10_pupil_p152 8 rfl
theorem dX10_pupil_88 : decode cX10_pupil 88 = .ok (.if_icmp .le 8, 3) := dq_at dqX10_pupil_p152 9 rfl
theorem dX10_pupil_91 : decode cX10_pupil 91 = .ok (.iload 7, 2) := dq_at dqX10_pupil_p152 10 rfl
theorem dX10_pupil_93 : decode cX10_pupil 93 = .ok (.goto 5, 3) := dq_at dqX10_pupil_p152 11 rfl
theorem dX10_pupil_96 : decode cX10_pupil 96 = .ok (.iload 5, 2) := dq_at dqX10_pupil_p152 12 rfl
theorem dX10_pupil_98 : decode cX10_pupil 98 = .ok (.istore 5, 2) := dq_at dqX10_pupil_p152 13 rfl
theorem dX10_pupil_100 : decode cX10_pupil 100 = .ok (.iinc 6 1, 3) := dq_at dqX10_pupil_p152 14 rfl
theorem dX10_pupil_103 : decode cX10_pupil 103 = .ok (.goto (-70), 3) := dq_at dqX10_pupil_p152 15 rfl
theorem dX10_pupil_106 : decode cX10_pupil 106 = .ok (.iload_n 2, 1) := dq_at dqX10_pupil_p152 16 rfl
theorem dX10_pupil_107 : decode cX10_pupil 107 = .ok (.ifCond .ne 7, 3) := dq_at dqX10_pupil_p152 17 rfl
theorem dX10_pupil_110 : decode cX10_pupil 110 = .ok (.iload_n 3, 1) := dq_at dqX10_pupil_p152 18 rfl
theorem dX10_pupil_111 : decode cX10_pupil 111 = .ok (.goto 47, 3) := dq_at dqX10_pupil_p152 19 rfl
theorem dX10_pupil_114 : decode cX10_pupil 114 = .ok (.iload_n 2, 1) := dq_at dqX10_pupil_p153 0 rfl
theorem dX10_pupil_115 : decode cX10_pupil 115 = .ok (.iconst 1, 1) := dq_at dqX10_pupil_p153 1 rfl
theorem dX10_pupil_116 : decode cX10_pupil 116 = .ok (.if_icmp .ne 27, 3) := dq_at dqX10_pupil_p153 2 rfl
theorem dX10_pupil_119 : decode cX10_pupil 119 = .ok (.bipush 100, 2) := dq_at dqX10_pupil_p153 3 rfl
theorem dX10_pupil_121 : decode cX10_pupil 121 = .ok (.iload 4, 2) := dq_at dqX10_pupil_p153 4 rfl
theorem dX10_pupil_123 : decode cX10_pupil 123 = .ok (.bipush 9, 2) := dq_at dqX10_pupil_p153 5 rfl
theorem dX10_pupil_125 : decode cX10_pupil 125 = .ok (.idiv, 1) := dq_at dqX10_pupil_p153 6 rfl
theorem dX10_pupil_126 : decode cX10_pupil 126 = .ok (.iconst 1, 1) := dq_at dqX10_pupil_p153 7 rfl
theorem dX10_pupil_127 : decode cX10_pupil 127 = .ok (.iadd, 1) := dq_at dqX10_pupil_p153 8 rfl
theorem dX10_pupil_128 : decode cX10_pupil 128 = .ok (.imul, 1) := dq_at dqX10_pupil_p153 9 rfl
theorem dX10_pupil_129 : decode cX10_pupil 129 = .ok (.bipush 10, 2) := dq_at dqX10_pupil_p153 10 rfl
theorem dX10_pupil_131 : decode cX10_pupil 131 = .ok (.iload 4, 2) := dq_at dqX10_pupil_p153 11 rfl
theorem dX10_pupil_133 : decode cX10_pupil 133 = .ok (.bipush 9, 2) := dq_at dqX10_pupil_p153 12 rfl
theorem dX10_pupil_135 : decode cX10_pupil 135 = .ok (.irem, 1) := dq_at dqX10_pupil_p153 13 rfl
theorem dX10_pupil_136 : decode cX10_pupil 136 = .ok (.iconst 1, 1) := dq_at dqX10_pupil_p153 14 rfl
theorem dX10_pupil_137 : decode cX10_pupil 137 = .ok (.iadd, 1) := dq_at dqX10_pupil_p153 15 rfl
theorem dX10_pupil_138 : decode cX10_pupil 138 = .ok (.imul, 1) := dq_at dqX10_pupil_p153 16 rfl
theorem dX10_pupil_139 : decode cX10_pupil 139 = .ok (.iadd, 1) := dq_at dqX10_pupil_p153 17 rfl
theorem dX10_pupil_140 : decode cX10_pupil 140 = .ok (.goto 18, 3) := dq_at dqX10_pupil_p153 18 rfl
theorem dX10_pupil_143 : decode cX10_pupil 143 = .ok (.iload_n 2, 1) := dq_at dqX10_pupil_p153 19 rfl
theorem dX10_pupil_144 : decode cX10_pupil 144 = .ok (.iconst 2, 1) := dq_at dqX10_pupil_p154 0 rfl
theorem dX10_pupil_145 : decode cX10_pupil 145 = .ok (.if_icmp .ne 8, 3) := dq_at dqX10_pupil_p154 1 rfl
theorem dX10_pupil_148 : decode cX10_pupil 148 = .ok (.iload 5, 2) := dq_at dqX10_pupil_p154 2 rfl
theorem dX10_pupil_150 : decode cX10_pupil 150 = .ok (.goto 8, 3) := dq_at dqX10_pupil_p154 3 rfl
theorem dX10_pupil_153 : decode cX10_pupil 153 = .ok (.aload_n 0, 1) := dq_at dqX10_pupil_p154 4 rfl
theorem dX10_pupil_154 : decode cX10_pupil 154 = .ok (.iload_n 1, 1) := dq_at dqX10_pupil_p154 5 rfl
theorem dX10_pupil_155 : decode cX10_pupil 155 = .ok (.invokevirtual 263, 3) := dq_at dqX10_pupil_p154 6 rfl
theorem dX10_pupil_158 : decode cX10_pupil 158 = .ok (.ireturn, 1) := dq_at dqX10_pupil_p154 7 rfl
theorem dX10_figures_0 : decode cX10_figures 0 = .ok (.iload_n 1, 1) := dq_at dqX10_figures_p150 0 rfl
theorem dX10_figures_1 : decode cX10_figures 1 = .ok (.iconst 0, 1) := dq_at dqX10_figures_p150 1 rfl
theorem dX10_figures_2 : decode cX10_figures 2 = .ok (.bipush 9, 2) := dq_at dqX10_figures_p150 2 rfl
theorem dX10_figures_4 : decode cX10_figures 4 = .ok (.invokestatic 93, 3) := dq_at dqX10_figures_p150 3 rfl
theorem dX10_figures_7 : decode cX10_figures 7 = .ok (.ifCond .eq 18, 3) := dq_at dqX10_figures_p150 4 rfl
theorem dX10_figures_10 : decode cX10_figures 10 = .ok (.iload_n 2, 1) := dq_at dqX10_figures_p150 5 rfl
theorem dX10_figures_11 : decode cX10_figures 11 = .ok (.iconst 0, 1) := dq_at dqX10_figures_p150 6 rfl
theorem dX10_figures_12 : decode cX10_figures 12 = .ok (.bipush 9, 2) := dq_at dqX10_figures_p150 7 rfl
theorem dX10_figures_14 : decode cX10_figures 14 = .ok (.invokestatic 93, 3) := dq_at dqX10_figures_p150 8 rfl
theorem dX10_figures_17 : decode cX10_figures 17 = .ok (.ifCond .eq 8, 3) := dq_at dqX10_figures_p150 9 rfl
theorem dX10_figures_20 : decode cX10_figures 20 = .ok (.iload_n 1, 1) := dq_at dqX10_figures_p150 10 rfl
theorem dX10_figures_21 : decode cX10_figures 21 = .ok (.iload_n 2, 1) := dq_at dqX10_figures_p150 11 rfl
theorem dX10_figures_22 : decode cX10_figures 22 = .ok (.if_icmp .ne 6, 3) := dq_at dqX10_figures_p150 12 rfl
theorem dX10_figures_25 : decode cX10_figures 25 = .ok (.bipush (-2), 2) := dq_at dqX10_figures_p150 13 rfl
theorem dX10_figures_27 : decode cX10_figures 27 = .ok (.ireturn, 1) := dq_at dqX10_figures_p150 14 rfl
theorem dX10_figures_28 : decode cX10_figures 28 = .ok (.iload_n 3, 1) := dq_at dqX10_figures_p150 15 rfl
theorem dX10_figures_29 : decode cX10_figures 29 = .ok (.iconst 0, 1) := dq_at dqX10_figures_p150 16 rfl
theorem dX10_figures_30 : decode cX10_figures 30 = .ok (.bipush 9, 2) := dq_at dqX10_figures_p150 17 rfl
theorem dX10_figures_32 : decode cX10_figures 32 = .ok (.invokestatic 93, 3) := dq_at dqX10_figures_p150 18 rfl
theorem dX10_figures_35 : decode cX10_figures 35 = .ok (.ifCond .ne 6, 3) := dq_at dqX10_figures_p150 19 rfl
theorem dX10_figures_38 : decode cX10_figures 38 = .ok (.bipush (-3), 2) := dq_at dqX10_figures_p151 0 rfl
theorem dX10_figures_40 : decode cX10_figures 40 = .ok (.ireturn, 1) := dq_at dqX10_figures_p151 1 rfl
theorem dX10_figures_41 : decode cX10_figures 41 = .ok (.aload_n 0, 1) := dq_at dqX10_figures_p151 2 rfl
theorem dX10_figures_42 : decode cX10_figures 42 = .ok (.getfield 90, 3) := dq_at dqX10_figures_p151 3 rfl
theorem dX10_figures_45 : decode cX10_figures 45 = .ok (.bipush 10, 2) := dq_at dqX10_figures_p151 4 rfl
theorem dX10_figures_47 : decode cX10_figures 47 = .ok (.iload_n 1, 1) := dq_at dqX10_figures_p151 5 rfl
theorem dX10_figures_48 : decode cX10_figures 48 = .ok (.imul, 1) := dq_at dqX10_figures_p151 6 rfl
theorem dX10_figures_49 : decode cX10_figures 49 = .ok (.iload_n 2, 1) := dq_at dqX10_figures_p151 7 rfl
theorem dX10_figures_50 : decode cX10_figures 50 = .ok (.iadd, 1) := dq_at dqX10_figures_p151 8 rfl
theorem dX10_figures_51 : decode cX10_figures 51 = .ok (.iaload, 1) := dq_at dqX10_figures_p151 9 rfl
theorem dX10_figures_52 : decode cX10_figures 52 = .ok (.istore 4, 2) := dq_at dqX10_figures_p151 10 rfl
theorem dX10_figures_54 : decode cX10_figures 54 = .ok (.aload_n 0, 1) := dq_at dqX10_figures_p151 11 rfl
theorem dX10_figures_55 : decode cX10_figures 55 = .ok (.getfield 90, 3) := dq_at dqX10_figures_p151 12 rfl
theorem dX10_figures_58 : decode cX10_figures 58 = .ok (.bipush 10, 2) := dq_at dqX10_figures_p151 13 rfl
theorem dX10_figures_60 : decode cX10_figures 60 = .ok (.iload_n 1, 1) := dq_at dqX10_figures_p151 14 rfl
theorem dX10_figures_61 : decode cX10_figures 61 = .ok (.imul, 1) := dq_at dqX10_figures_p151 15 rfl
theorem dX10_figures_62 : decode cX10_figures 62 = .ok (.iload_n 2, 1) := dq_at dqX10_figures_p151 16 rfl
theorem dX10_figures_63 : decode cX10_figures 63 = .ok (.iadd, 1) := dq_at dqX10_figures_p151 17 rfl
theorem dX10_figures_64 : decode cX10_figures 64 = .ok (.iload_n 3, 1) := dq_at dqX10_figures_p151 18 rfl
theorem dX10_figures_65 : decode cX10_figures 65 = .ok (.iastore, 1) := dq_at dqX10_figures_p151 19 rfl
theorem dX10_figures_66 : decode cX10_figures 66 = .ok (.aload_n 0, 1) := dq_at dqX10_figures_p152 0 rfl
theorem dX10_figures_67 : decode cX10_figures 67 = .ok (.getfield 90, 3) := dq_at dqX10_figures_p152 1 rfl
theorem dX10_figures_70 : decode cX10_figures 70 = .ok (.bipush 10, 2) := dq_at dqX10_figures_p152 2 rfl
theorem dX10_figures_72 : decode cX10_figures 72 = .ok (.iload_n 2, 1) := dq_at dqX10_figures_p152 3 rfl
theorem dX10_figures_73 : decode cX10_figures 73 = .ok (.imul, 1) := dq_at dqX10_figures_p152 4 rfl
theorem dX10_figures_74 : decode cX10_figures 74 = .ok (.iload_n 1, 1) := dq_at dqX10_figures_p152 5 rfl
theorem dX10_figures_75 : decode cX10_figures 75 = .ok (.iadd, 1) := dq_at dqX10_figures_p152 6 rfl
theorem dX10_figures_76 : decode cX10_figures 76 = .ok (.iload_n 3, 1) := dq_at dqX10_figures_p152 7 rfl
theorem dX10_figures_77 : decode cX10_figures 77 = .ok (.iastore, 1) := dq_at dqX10_figures_p152 8 rfl
theorem dX10_figures_78 : decode cX10_figures 78 = .ok (.iload 4, 2) := dq_at dqX10_figures_p152 9 rfl
theorem dX10_figures_80 : decode cX10_figures 80 = .ok (.ireturn, 1) := dq_at dqX10_figures_p152 10 rfl
theorem dX10_enough_0 : decode cX10_enough 0 = .ok (.iload_n 1, 1) := dq_at dqX10_enough_p150 0 rfl
theorem dX10_enough_1 : decode cX10_enough 1 = .ok (.iconst 0, 1) := dq_at dqX10_enough_p150 1 rfl
theorem dX10_enough_2 : decode cX10_enough 2 = .ok (.bipush 48, 2) := dq_at dqX10_enough_p150 2 rfl
theorem dX10_enough_4 : decode cX10_enough 4 = .ok (.invokestatic 93, 3) := dq_at dqX10_enough_p150 3 rfl
theorem dX10_enough_7 : decode cX10_enough 7 = .ok (.ifCond .ne 6, 3) := dq_at dqX10_enough_p150 4 rfl
theorem dX10_enough_10 : decode cX10_enough 10 = .ok (.bipush (-3), 2) := dq_at dqX10_enough_p150 5 rfl
theorem dX10_enough_12 : decode cX10_enough 12 = .ok (.ireturn, 1) := dq_at dqX10_enough_p150 6 rfl
theorem dX10_enough_13 : decode cX10_enough 13 = .ok (.iconst 0, 1) := dq_at dqX10_enough_p150 7 rfl
theorem dX10_enough_14 : decode cX10_enough 14 = .ok (.istore_n 2, 1) := dq_at dqX10_enough_p150 8 rfl
theorem dX10_enough_15 : decode cX10_enough 15 = .ok (.iconst 0, 1) := dq_at dqX10_enough_p150 9 rfl
theorem dX10_enough_16 : decode cX10_enough 16 = .ok (.istore_n 3, 1) := dq_at dqX10_enough_p150 10 rfl
theorem dX10_enough_17 : decode cX10_enough 17 = .ok (.iconst 0, 1) := dq_at dqX10_enough_p150 11 rfl
theorem dX10_enough_18 : decode cX10_enough 18 = .ok (.istore 4, 2) := dq_at dqX10_enough_p150 12 rfl
theorem dX10_enough_20 : decode cX10_enough 20 = .ok (.iload 4, 2) := dq_at dqX10_enough_p150 13 rfl
theorem dX10_enough_22 : decode cX10_enough 22 = .ok (.bipush 8, 2) := dq_at dqX10_enough_p150 14 rfl
theorem dX10_enough_24 : decode cX10_enough 24 = .ok (.if_icmp .ge 78, 3) := dq_at dqX10_enough_p150 15 rfl
theorem dX10_enough_27 : decode cX10_enough 27 = .ok (.iload_n 2, 1) := dq_at dqX10_enough_p150 16 rfl
theorem dX10_enough_28 : decode cX10_enough 28 = .ok (.iload_n 1, 1) := dq_at dqX10_enough_p150 17 rfl
theorem dX10_enough_29 : decode cX10_enough 29 = .ok (.if_icmp .ge 73, 3) := dq_at dqX10_enough_p150 18 rfl
theorem dX10_enough_32 : decode cX10_enough 32 = .ok (.iconst 0, 1) := dq_at dqX10_enough_p150 19 rfl
theorem dX10_enough_33 : decode cX10_enough 33 = .ok (.istore 5, 2) := dq_at dqX10_enough_p151 0 rfl
theorem dX10_enough_35 : decode cX10_enough 35 = .ok (.iload 5, 2) := dq_at dqX10_enough_p151 1 rfl
theorem dX10_enough_37 : decode cX10_enough 37 = .ok (.bipush 8, 2) := dq_at dqX10_enough_p151 2 rfl
theorem dX10_enough_39 : decode cX10_enough 39 = .ok (.if_icmp .ge 57, 3) := dq_at dqX10_enough_p151 3 rfl
theorem dX10_enough_42 : decode cX10_enough 42 = .ok (.iload_n 2, 1) := dq_at dqX10_enough_p151 4 rfl
theorem dX10_enough_43 : decode cX10_enough 43 = .ok (.iload_n 1, 1) := dq_at dqX10_enough_p151 5 rfl
theorem dX10_enough_44 : decode cX10_enough 44 = .ok (.if_icmp .ge 52, 3) := dq_at dqX10_enough_p151 6 rfl
theorem dX10_enough_47 : decode cX10_enough 47 = .ok (.aload_n 0, 1) := dq_at dqX10_enough_p151 7 rfl
theorem dX10_enough_48 : decode cX10_enough 48 = .ok (.iconst 0, 1) := dq_at dqX10_enough_p151 8 rfl
theorem dX10_enough_49 : decode cX10_enough 49 = .ok (.iload 5, 2) := dq_at dqX10_enough_p151 9 rfl
theorem dX10_enough_51 : decode cX10_enough 51 = .ok (.invokevirtual 108, 3) := dq_at dqX10_enough_p151 10 rfl
theorem dX10_enough_54 : decode cX10_enough 54 = .ok (.iload 4, 2) := dq_at dqX10_enough_p151 11 rfl
theorem dX10_enough_56 : decode cX10_enough 56 = .ok (.if_icmp .ne 34, 3) := dq_at dqX10_enough_p151 12 rfl
theorem dX10_enough_59 : decode cX10_enough 59 = .ok (.aload_n 0, 1) := dq_at dqX10_enough_p151 13 rfl
theorem dX10_enough_60 : decode cX10_enough 60 = .ok (.iconst 0, 1) := dq_at dqX10_enough_p151 14 rfl
theorem dX10_enough_61 : decode cX10_enough 61 = .ok (.iload 5, 2) := dq_at dqX10_enough_p151 15 rfl
theorem dX10_enough_63 : decode cX10_enough 63 = .ok (.bipush 6, 2) := dq_at dqX10_enough_p151 16 rfl
theorem dX10_enough_65 : decode cX10_enough 65 = .ok (.invokevirtual 216, 3) := dq_at dqX10_enough_p151 17 rfl
theorem dX10_enough_68 : decode cX10_enough 68 = .ok (.istore 6, 2) := dq_at dqX10_enough_p151 18 rfl
theorem dX10_enough_70 : decode cX10_enough 70 = .ok (.iload_n 2, 1) := dq_at dqX10_enough_p151 19 rfl
theorem dX10_enough_71 : decode cX10_enough 71 = .ok (.iload 6, 2) := dq_at dqX10_enough_p152 0 rfl
theorem dX10_enough_73 : decode cX10_enough 73 = .ok (.bipush 6, 2) := dq_at dqX10_enough_p152 1 rfl
theorem dX10_enough_75 : decode cX10_enough 75 = .ok (.if_icmp .le 8, 3) := dq_at dqX10_enough_p152 2 rfl
theorem dX10_enough_78 : decode cX10_enough 78 = .ok (.bipush 6, 2) := dq_at dqX10_enough_p152 3 rfl
theorem dX10_enough_80 : decode cX10_enough 80 = .ok (.goto 5, 3) := dq_at dqX10_enough_p152 4 rfl
theorem dX10_enough_83 : decode cX10_enough 83 = .ok (.iload 6, 2) := dq_at dqX10_enough_p152 5 rfl
theorem dX10_enough_85 : decode cX10_enough 85 = .ok (.iadd, 1) := dq_at dqX10_enough_p152 6 rfl
theorem dX10_enough_86 : decode cX10_enough 86 = .ok (.istore_n 2, 1) := dq_at dqX10_enough_p152 7 rfl
theorem dX10_enough_87 : decode cX10_enough 87 = .ok (.iinc 3 1, 3) := dq_at dqX10_enough_p152 8 rfl
theorem dX10_enough_90 : decode cX10_enough 90 = .ok (.iinc 5 1, 3) := dq_at dqX10_enough_p152 9 rfl
theorem dX10_enough_93 : decode cX10_enough 93 = .ok (.goto (-58), 3) := dq_at dqX10_enough_p152 10 rfl
theorem dX10_enough_96 : decode cX10_enough 96 = .ok (.iinc 4 1, 3) := dq_at dqX10_enough_p152 11 rfl
theorem dX10_enough_99 : decode cX10_enough 99 = .ok (.goto (-79), 3) := dq_at dqX10_enough_p152 12 rfl
theorem dX10_enough_102 : decode cX10_enough 102 = .ok (.iload_n 2, 1) := dq_at dqX10_enough_p152 13 rfl
theorem dX10_enough_103 : decode cX10_enough 103 = .ok (.iload_n 1, 1) := dq_at dqX10_enough_p152 14 rfl
theorem dX10_enough_104 : decode cX10_enough 104 = .ok (.if_icmp .ge 7, 3) := dq_at dqX10_enough_p152 15 rfl
theorem dX10_enough_107 : decode cX10_enough 107 = .ok (.iconst (-1), 1) := dq_at dqX10_enough_p152 16 rfl
theorem dX10_enough_108 : decode cX10_enough 108 = .ok (.goto 4, 3) := dq_at dqX10_enough_p152 17 rfl
theorem dX10_enough_111 : decode cX10_enough 111 = .ok (.iload_n 3, 1) := dq_at dqX10_enough_p152 18 rfl
theorem dX10_enough_112 : decode cX10_enough 112 = .ok (.ireturn, 1) := dq_at dqX10_enough_p152 19 rfl
theorem dX10_count_0 : decode cX10_count 0 = .ok (.iconst 0, 1) := dq_at dqX10_count_p150 0 rfl
theorem dX10_count_1 : decode cX10_count 1 = .ok (.istore_n 2, 1) := dq_at dqX10_count_p150 1 rfl
theorem dX10_count_2 : decode cX10_count 2 = .ok (.iload_n 1, 1) := dq_at dqX10_count_p150 2 rfl
theorem dX10_count_3 : decode cX10_count 3 = .ok (.tableswitch 158 0 6 #[41, 46, 51, 75, 109, 148, 153], 41) := dq_at dqX10_count_p150 3 rfl
theorem dX10_count_44 : decode cX10_count 44 = .ok (.aload_n 0, 1) := dq_at dqX10_count_p150 4 rfl
theorem dX10_count_45 : decode cX10_count 45 = .ok (.getfield 125, 3) := dq_at dqX10_count_p150 5 rfl
theorem dX10_count_48 : decode cX10_count 48 = .ok (.ireturn, 1) := dq_at dqX10_count_p150 6 rfl
theorem dX10_count_49 : decode cX10_count 49 = .ok (.aload_n 0, 1) := dq_at dqX10_count_p150 7 rfl
theorem dX10_count_50 : decode cX10_count 50 = .ok (.getfield 97, 3) := dq_at dqX10_count_p150 8 rfl
theorem dX10_count_53 : decode cX10_count 53 = .ok (.ireturn, 1) := dq_at dqX10_count_p150 9 rfl
theorem dX10_count_54 : decode cX10_count 54 = .ok (.iconst 0, 1) := dq_at dqX10_count_p150 10 rfl
theorem dX10_count_55 : decode cX10_count 55 = .ok (.istore_n 3, 1) := dq_at dqX10_count_p150 11 rfl
theorem dX10_count_56 : decode cX10_count 56 = .ok (.iload_n 3, 1) := dq_at dqX10_count_p150 12 rfl
theorem dX10_count_57 : decode cX10_count 57 = .ok (.bipush 8, 2) := dq_at dqX10_count_p150 13 rfl
theorem dX10_count_59 : decode cX10_count 59 = .ok (.if_icmp .ge 17, 3) := dq_at dqX10_count_p150 14 rfl
theorem dX10_count_62 : decode cX10_count 62 = .ok (.iload_n 2, 1) := dq_at dqX10_count_p150 15 rfl
theorem dX10_count_63 : decode cX10_count 63 = .ok (.aload_n 0, 1) := dq_at dqX10_count_p150 16 rfl
theorem dX10_count_64 : decode cX10_count 64 = .ok (.iload_n 3, 1) := dq_at dqX10_count_p150 17 rfl
theorem dX10_count_65 : decode cX10_count 65 = .ok (.invokevirtual 213, 3) := dq_at dqX10_count_p150 18 rfl
theorem dX10_count_68 : decode cX10_count 68 = .ok (.iadd, 1) := dq_at dqX10_count_p150 19 rfl
theorem dX10_count_69 : decode cX10_count 69 = .ok (.istore_n 2, 1) := dq_at dqX10_count_p151 0 rfl
theorem dX10_count_70 : decode cX10_count 70 = .ok (.iinc 3 1, 3) := dq_at dqX10_count_p151 1 rfl
theorem dX10_count_73 : decode cX10_count 73 = .ok (.goto (-17), 3) := dq_at dqX10_count_p151 2 rfl
theorem dX10_count_76 : decode cX10_count 76 = .ok (.iload_n 2, 1) := dq_at dqX10_count_p151 3 rfl
theorem dX10_count_77 : decode cX10_count 77 = .ok (.ireturn, 1) := dq_at dqX10_count_p151 4 rfl
theorem dX10_count_78 : decode cX10_count 78 = .ok (.iconst 0, 1) := dq_at dqX10_count_p151 5 rfl
theorem dX10_count_79 : decode cX10_count 79 = .ok (.istore_n 3, 1) := dq_at dqX10_count_p151 6 rfl
theorem dX10_count_80 : decode cX10_count 80 = .ok (.iload_n 3, 1) := dq_at dqX10_count_p151 7 rfl
theorem dX10_count_81 : decode cX10_count 81 = .ok (.bipush 48, 2) := dq_at dqX10_count_p151 8 rfl
theorem dX10_count_83 : decode cX10_count 83 = .ok (.if_icmp .ge 27, 3) := dq_at dqX10_count_p151 9 rfl
theorem dX10_count_86 : decode cX10_count 86 = .ok (.iload_n 2, 1) := dq_at dqX10_count_p151 10 rfl
theorem dX10_count_87 : decode cX10_count 87 = .ok (.aload_n 0, 1) := dq_at dqX10_count_p151 11 rfl
theorem dX10_count_88 : decode cX10_count 88 = .ok (.getfield 38, 3) := dq_at dqX10_count_p151 12 rfl
theorem dX10_count_91 : decode cX10_count 91 = .ok (.iload_n 3, 1) := dq_at dqX10_count_p151 13 rfl
theorem dX10_count_92 : decode cX10_count 92 = .ok (.iaload, 1) := dq_at dqX10_count_p151 14 rfl
theorem dX10_count_93 : decode cX10_count 93 = .ok (.iconst (-1), 1) := dq_at dqX10_count_p151 15 rfl
theorem dX10_count_94 : decode cX10_count 94 = .ok (.if_icmp .ne 7, 3) := dq_at dqX10_count_p151 16 rfl
theorem dX10_count_97 : decode cX10_count 97 = .ok (.iconst 0, 1) := dq_at dqX10_count_p151 17 rfl
theorem dX10_count_98 : decode cX10_count 98 = .ok (.goto 4, 3) := dq_at dqX10_count_p151 18 rfl
theorem dX10_count_101 : decode cX10_count 101 = .ok (.iconst 1, 1) := dq_at dqX10_count_p151 19 rfl
theorem dX10_count_102 : decode cX10_count 102 = .ok (.iadd, 1) := dq_at dqX10_count_p152 0 rfl
theorem dX10_count_103 : decode cX10_count 103 = .ok (.istore_n 2, 1) := dq_at dqX10_count_p152 1 rfl
theorem dX10_count_104 : decode cX10_count 104 = .ok (.iinc 3 1, 3) := dq_at dqX10_count_p152 2 rfl
theorem dX10_count_107 : decode cX10_count 107 = .ok (.goto (-27), 3) := dq_at dqX10_count_p152 3 rfl
theorem dX10_count_110 : decode cX10_count 110 = .ok (.iload_n 2, 1) := dq_at dqX10_count_p152 4 rfl
theorem dX10_count_111 : decode cX10_count 111 = .ok (.ireturn, 1) := dq_at dqX10_count_p152 5 rfl
theorem dX10_count_112 : decode cX10_count 112 = .ok (.iconst 0, 1) := dq_at dqX10_count_p152 6 rfl
theorem dX10_count_113 : decode cX10_count 113 = .ok (.istore_n 3, 1) := dq_at dqX10_count_p152 7 rfl
theorem dX10_count_114 : decode cX10_count 114 = .ok (.iload_n 3, 1) := dq_at dqX10_count_p152 8 rfl
theorem dX10_count_115 : decode cX10_count 115 = .ok (.bipush 48, 2) := dq_at dqX10_count_p152 9 rfl
theorem dX10_count_117 : decode cX10_count 117 = .ok (.if_icmp .ge 32, 3) := dq_at dqX10_count_p152 10 rfl
theorem dX10_count_120 : decode cX10_count 120 = .ok (.iload_n 2, 1) := dq_at dqX10_count_p152 11 rfl
theorem dX10_count_121 : decode cX10_count 121 = .ok (.aload_n 0, 1) := dq_at dqX10_count_p152 12 rfl
theorem dX10_count_122 : decode cX10_count 122 = .ok (.getfield 32, 3) := dq_at dqX10_count_p152 13 rfl
theorem dX10_count_125 : decode cX10_count 125 = .ok (.iload_n 3, 1) := dq_at dqX10_count_p152 14 rfl
theorem dX10_count_126 : decode cX10_count 126 = .ok (.iaload, 1) := dq_at dqX10_count_p152 15 rfl
theorem dX10_count_127 : decode cX10_count 127 = .ok (.iconst (-1), 1) := dq_at dqX10_count_p152 16 rfl
theorem dX10_count_128 : decode cX10_count 128 = .ok (.if_icmp .ne 7, 3) := dq_at dqX10_count_p152 17 rfl
theorem dX10_count_131 : decode cX10_count 131 = .ok (.iconst 0, 1) := dq_at dqX10_count_p152 18 rfl
theorem dX10_count_132 : decode cX10_count 132 = .ok (.goto 9, 3) := dq_at dqX10_count_p152 19 rfl
theorem dX10_count_135 : decode cX10_count 135 = .ok (.aload_n 0, 1) := dq_at dqX10_count_p153 0 rfl
theorem dX10_count_136 : decode cX10_count 136 = .ok (.getfield 35, 3) := dq_at dqX10_count_p153 1 rfl
theorem dX10_count_139 : decode cX10_count 139 = .ok (.iload_n 3, 1) := dq_at dqX10_count_p153 2 rfl
theorem dX10_count_140 : decode cX10_count 140 = .ok (.iaload, 1) := dq_at dqX10_count_p153 3 rfl
theorem dX10_count_141 : decode cX10_count 141 = .ok (.iadd, 1) := dq_at dqX10_count_p153 4 rfl
theorem dX10_count_142 : decode cX10_count 142 = .ok (.istore_n 2, 1) := dq_at dqX10_count_p153 5 rfl
theorem dX10_count_143 : decode cX10_count 143 = .ok (.iinc 3 1, 3) := dq_at dqX10_count_p153 6 rfl
theorem dX10_count_146 : decode cX10_count 146 = .ok (.goto (-32), 3) := dq_at dqX10_count_p153 7 rfl
theorem dX10_count_149 : decode cX10_count 149 = .ok (.iload_n 2, 1) := dq_at dqX10_count_p153 8 rfl
theorem dX10_count_150 : decode cX10_count 150 = .ok (.ireturn, 1) := dq_at dqX10_count_p153 9 rfl
theorem dX10_count_151 : decode cX10_count 151 = .ok (.aload_n 0, 1) := dq_at dqX10_count_p153 10 rfl
theorem dX10_count_152 : decode cX10_count 152 = .ok (.getfield 141, 3) := dq_at dqX10_count_p153 11 rfl
theorem dX10_count_155 : decode cX10_count 155 = .ok (.ireturn, 1) := dq_at dqX10_count_p153 12 rfl
theorem dX10_count_156 : decode cX10_count 156 = .ok (.aload_n 0, 1) := dq_at dqX10_count_p153 13 rfl
theorem dX10_count_157 : decode cX10_count 157 = .ok (.getfield 210, 3) := dq_at dqX10_count_p153 14 rfl
theorem dX10_count_160 : decode cX10_count 160 = .ok (.ireturn, 1) := dq_at dqX10_count_p153 15 rfl
theorem dX10_count_161 : decode cX10_count 161 = .ok (.bipush (-3), 2) := dq_at dqX10_count_p153 16 rfl
theorem dX10_count_163 : decode cX10_count 163 = .ok (.ireturn, 1) := dq_at dqX10_count_p153 17 rfl
