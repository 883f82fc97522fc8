set_option maxRecDepth 20000 in
theorem ggX10_nextToken_X10_in : GoodIn wsX10_nextToken wsX10_in := goodIn_r _ [17] (by decide +kernel) (by decide +kernel)
set_option maxRecDepth 20000 in
theorem gX10_nextToken_X10_in : GoodIn wsX10_nextToken (va_wsS RX10 93 yX10_in wsX10_in) := goodIn_app (goodIn_of _ (by decide +kernel)) ggX10_nextToken_X10_in
theorem dX10_nextToken_0 : decode cX10_nextToken 0 = .ok (.aload_n 0, 1) := by decide +kernel
theorem dX10_nextToken_1 : decode cX10_nextToken 1 = .ok (.getfield 146, 3) := by decide +kernel
theorem dX10_nextToken_4 : decode cX10_nextToken 4 = .ok (.aload_n 0, 1) := by decide +kernel
theorem dX10_nextToken_5 : decode cX10_nextToken 5 = .ok (.getfield 141, 3) := by decide +kernel
theorem dX10_nextToken_8 : decode cX10_nextToken 8 = .ok (.if_icmp .ge 30, 3) := by decide +kernel
theorem dX10_nextToken_11 : decode cX10_nextToken 11 = .ok (.aload_n 0, 1) := by decide +kernel
theorem dX10_nextToken_12 : decode cX10_nextToken 12 = .ok (.getfield 62, 3) := by decide +kernel
theorem dX10_nextToken_15 : decode cX10_nextToken 15 = .ok (.aload_n 0, 1) := by decide +kernel
theorem dX10_nextToken_16 : decode cX10_nextToken 16 = .ok (.getfield 146, 3) := by decide +kernel
theorem dX10_nextToken_19 : decode cX10_nextToken 19 = .ok (.iaload, 1) := by decide +kernel
theorem dX10_nextToken_20 : decode cX10_nextToken 20 = .ok (.bipush 32, 2) := by decide +kernel
theorem dX10_nextToken_22 : decode cX10_nextToken 22 = .ok (.if_icmp .ne 16, 3) := by decide +kernel
theorem dX10_nextToken_25 : decode cX10_nextToken 25 = .ok (.aload_n 0, 1) := by decide +kernel
theorem dX10_nextToken_26 : decode cX10_nextToken 26 = .ok (.dup, 1) := by decide +kernel
theorem dX10_nextToken_27 : decode cX10_nextToken 27 = .ok (.getfield 146, 3) := by decide +kernel
theorem dX10_nextToken_30 : decode cX10_nextToken 30 = .ok (.iconst 1, 1) := by decide +kernel
theorem dX10_nextToken_31 : decode cX10_nextToken 31 = .ok (.iadd, 1) := by decide +kernel
theorem dX10_nextToken_32 : decode cX10_nextToken 32 = .ok (.putfield 146, 3) := by decide +kernel
theorem dX10_nextToken_35 : decode cX10_nextToken 35 = .ok (.goto (-35), 3) := by decide +kernel
theorem dX10_nextToken_38 : decode cX10_nextToken 38 = .ok (.aload_n 0, 1) := by decide +kernel
theorem dX10_nextToken_39 : decode cX10_nextToken 39 = .ok (.aload_n 0, 1) := by decide +kernel
theorem dX10_nextToken_40 : decode cX10_nextToken 40 = .ok (.getfield 146, 3) := by decide +kernel
theorem dX10_nextToken_43 : decode cX10_nextToken 43 = .ok (.putfield 149, 3) := by decide +kernel
theorem dX10_nextToken_46 : decode cX10_nextToken 46 = .ok (.aload_n 0, 1) := by decide +kernel
theorem dX10_nextToken_47 : decode cX10_nextToken 47 = .ok (.iconst 0, 1) := by decide +kernel
theorem dX10_nextToken_48 : decode cX10_nextToken 48 = .ok (.putfield 152, 3) := by decide +kernel
theorem dX10_nextToken_51 : decode cX10_nextToken 51 = .ok (.aload_n 0, 1) := by decide +kernel
theorem dX10_nextToken_52 : decode cX10_nextToken 52 = .ok (.iconst 0, 1) := by decide +kernel
theorem dX10_nextToken_53 : decode cX10_nextToken 53 = .ok (.putfield 155, 3) := by decide +kernel
theorem dX10_nextToken_56 : decode cX10_nextToken 56 = .ok (.aload_n 0, 1) := by decide +kernel
theorem dX10_nextToken_57 : decode cX10_nextToken 57 = .ok (.getfield 146, 3) := by decide +kernel
theorem dX10_nextToken_60 : decode cX10_nextToken 60 = .ok (.aload_n 0, 1) := by decide +kernel
theorem dX10_nextToken_61 : decode cX10_nextToken 61 = .ok (.getfield 141, 3) := by decide +kernel
theorem dX10_nextToken_64 : decode cX10_nextToken 64 = .ok (.if_icmp .ne 13, 3) := by decide +kernel
theorem dX10_nextToken_67 : decode cX10_nextToken 67 = .ok (.aload_n 0, 1) := by decide +kernel
theorem dX10_nextToken_68 : decode cX10_nextToken 68 = .ok (.ldc2_w 158, 3) := by decide +kernel
theorem dX10_nextToken_71 : decode cX10_nextToken 71 = .ok (.putfield 160, 3) := by decide +kernel
theorem dX10_nextToken_74 : decode cX10_nextToken 74 = .ok (.goto 320, 3) := by decide +kernel
theorem dX10_nextToken_77 : decode cX10_nextToken 77 = .ok (.aload_n 0, 1) := by decide +kernel
theorem dX10_nextToken_78 : decode cX10_nextToken 78 = .ok (.getfield 62, 3) := by decide +kernel
theorem dX10_nextToken_81 : decode cX10_nextToken 81 = .ok (.aload_n 0, 1) := by decide +kernel
theorem dX10_nextToken_82 : decode cX10_nextToken 82 = .ok (.getfield 146, 3) := by decide +kernel
theorem dX10_nextToken_85 : decode cX10_nextToken 85 = .ok (.iaload, 1) := by decide +kernel
theorem dX10_nextToken_86 : decode cX10_nextToken 86 = .ok (.bipush 97, 2) := by decide +kernel
theorem dX10_nextToken_88 : decode cX10_nextToken 88 = .ok (.bipush 122, 2) := by decide +kernel
theorem dX10_nextToken_90 : decode cX10_nextToken 90 = .ok (.invokestatic 93, 3) := by decide +kernel
theorem dX10_nextToken_93 : decode cX10_nextToken 93 = .ok (.ifCond .eq 129, 3) := by decide +kernel
theorem dX10_nextToken_96 : decode cX10_nextToken 96 = .ok (.aload_n 0, 1) := by decide +kernel
theorem dX10_nextToken_97 : decode cX10_nextToken 97 = .ok (.lconst 0, 1) := by decide +kernel
theorem dX10_nextToken_98 : decode cX10_nextToken 98 = .ok (.putfield 160, 3) := by decide +kernel
theorem dX10_nextToken_101 : decode cX10_nextToken 101 = .ok (.aload_n 0, 1) := by decide +kernel
theorem dX10_nextToken_102 : decode cX10_nextToken 102 = .ok (.getfield 146, 3) := by decide +kernel
theorem dX10_nextToken_105 : decode cX10_nextToken 105 = .ok (.aload_n 0, 1) := by decide +kernel
theorem dX10_nextToken_106 : decode cX10_nextToken 106 = .ok (.getfield 141, 3) := by decide +kernel
theorem dX10_nextToken_109 : decode cX10_nextToken 109 = .ok (.if_icmp .ge 82, 3) := by decide +kernel
theorem dX10_nextToken_112 : decode cX10_nextToken 112 = .ok (.aload_n 0, 1) := by decide +kernel
theorem dX10_nextToken_113 : decode cX10_nextToken 113 = .ok (.getfield 62, 3) := by decide +kernel
theorem dX10_nextToken_116 : decode cX10_nextToken 116 = .ok (.aload_n 0, 1) := by decide +kernel
theorem dX10_nextToken_117 : decode cX10_nextToken 117 = .ok (.getfield 146, 3) := by decide +kernel
theorem dX10_nextToken_120 : decode cX10_nextToken 120 = .ok (.iaload, 1) := by decide +kernel
theorem dX10_nextToken_121 : decode cX10_nextToken 121 = .ok (.bipush 97, 2) := by decide +kernel
theorem dX10_nextToken_123 : decode cX10_nextToken 123 = .ok (.bipush 122, 2) := by decide +kernel
theorem dX10_nextToken_125 : decode cX10_nextToken 125 = .ok (.invokestatic 93, 3) := by decide +kernel
theorem dX10_nextToken_128 : decode cX10_nextToken 128 = .ok (.ifCond .eq 63, 3) := by decide +kernel
theorem dX10_nextToken_131 : decode cX10_nextToken 131 = .ok (.aload_n 0, 1) := by decide +kernel
theorem dX10_nextToken_132 : decode cX10_nextToken 132 = .ok (.aload_n 0, 1) := by decide +kernel
theorem dX10_nextToken_133 : decode cX10_nextToken 133 = .ok (.getfield 146, 3) := by decide +kernel
theorem dX10_nextToken_136 : decode cX10_nextToken 136 = .ok (.aload_n 0, 1) := by decide +kernel
theorem dX10_nextToken_137 : decode cX10_nextToken 137 = .ok (.getfield 149, 3) := by decide +kernel
theorem dX10_nextToken_140 : decode cX10_nextToken 140 = .ok (.isub, 1) := by decide +kernel
theorem dX10_nextToken_141 : decode cX10_nextToken 141 = .ok (.bipush 9, 2) := by decide +kernel
theorem dX10_nextToken_143 : decode cX10_nextToken 143 = .ok (.if_icmp .ge 29, 3) := by decide +kernel
theorem dX10_nextToken_146 : decode cX10_nextToken 146 = .ok (.ldc2_w 164, 3) := by decide +kernel
theorem dX10_nextToken_149 : decode cX10_nextToken 149 = .ok (.aload_n 0, 1) := by decide +kernel
theorem dX10_nextToken_150 : decode cX10_nextToken 150 = .ok (.getfield 160, 3) := by decide +kernel
theorem dX10_nextToken_153 : decode cX10_nextToken 153 = .ok (.lmul, 1) := by decide +kernel
theorem dX10_nextToken_154 : decode cX10_nextToken 154 = .ok (.aload_n 0, 1) := by decide +kernel
theorem dX10_nextToken_155 : decode cX10_nextToken 155 = .ok (.getfield 62, 3) := by decide +kernel
theorem dX10_nextToken_158 : decode cX10_nextToken 158 = .ok (.aload_n 0, 1) := by decide +kernel
theorem dX10_nextToken_159 : decode cX10_nextToken 159 = .ok (.getfield 146, 3) := by decide +kernel
theorem dX10_nextToken_162 : decode cX10_nextToken 162 = .ok (.iaload, 1) := by decide +kernel
theorem dX10_nextToken_163 : decode cX10_nextToken 163 = .ok (.i2l, 1) := by decide +kernel
theorem dX10_nextToken_164 : decode cX10_nextToken 164 = .ok (.ladd, 1) := by decide +kernel
theorem dX10_nextToken_165 : decode cX10_nextToken 165 = .ok (.ldc2_w 166, 3) := by decide +kernel
theorem dX10_nextToken_168 : decode cX10_nextToken 168 = .ok (.lsub, 1) := by decide +kernel
theorem dX10_nextToken_169 : decode cX10_nextToken 169 = .ok (.goto 6, 3) := by decide +kernel
theorem dX10_nextToken_172 : decode cX10_nextToken 172 = .ok (.ldc2_w 168, 3) := by decide +kernel
theorem dX10_nextToken_175 : decode cX10_nextToken 175 = .ok (.putfield 160, 3) := by decide +kernel
theorem dX10_nextToken_178 : decode cX10_nextToken 178 = .ok (.aload_n 0, 1) := by decide +kernel
theorem dX10_nextToken_179 : decode cX10_nextToken 179 = .ok (.dup, 1) := by decide +kernel
theorem dX10_nextToken_180 : decode cX10_nextToken 180 = .ok (.getfield 146, 3) := by decide +kernel
theorem dX10_nextToken_183 : decode cX10_nextToken 183 = .ok (.iconst 1, 1) := by decide +kernel
theorem dX10_nextToken_184 : decode cX10_nextToken 184 = .ok (.iadd, 1) := by decide +kernel
theorem dX10_nextToken_185 : decode cX10_nextToken 185 = .ok (.putfield 146, 3) := by decide +kernel
theorem dX10_nextToken_188 : decode cX10_nextToken 188 = .ok (.goto (-87), 3) := by decide +kernel
theorem dX10_nextToken_191 : decode cX10_nextToken 191 = .ok (.aload_n 0, 1) := by decide +kernel
theorem dX10_nextToken_192 : decode cX10_nextToken 192 = .ok (.aload_n 0, 1) := by decide +kernel
theorem dX10_nextToken_193 : decode cX10_nextToken 193 = .ok (.getfield 146, 3) := by decide +kernel
theorem dX10_nextToken_196 : decode cX10_nextToken 196 = .ok (.aload_n 0, 1) := by decide +kernel
theorem dX10_nextToken_197 : decode cX10_nextToken 197 = .ok (.getfield 149, 3) := by decide +kernel
theorem dX10_nextToken_200 : decode cX10_nextToken 200 = .ok (.isub, 1) := by decide +kernel
theorem dX10_nextToken_201 : decode cX10_nextToken 201 = .ok (.bipush 9, 2) := by decide +kernel
theorem dX10_nextToken_203 : decode cX10_nextToken 203 = .ok (.if_icmp .le 9, 3) := by decide +kernel
theorem dX10_nextToken_206 : decode cX10_nextToken 206 = .ok (.ldc2_w 168, 3) := by decide +kernel
theorem dX10_nextToken_209 : decode cX10_nextToken 209 = .ok (.goto 7, 3) := by decide +kernel
theorem dX10_nextToken_212 : decode cX10_nextToken 212 = .ok (.aload_n 0, 1) := by decide +kernel
theorem dX10_nextToken_213 : decode cX10_nextToken 213 = .ok (.getfield 160, 3) := by decide +kernel
theorem dX10_nextToken_216 : decode cX10_nextToken 216 = .ok (.putfield 160, 3) := by decide +kernel
theorem dX10_nextToken_219 : decode cX10_nextToken 219 = .ok (.goto 175, 3) := by decide +kernel
theorem dX10_nextToken_222 : decode cX10_nextToken 222 = .ok (.aload_n 0, 1) := by decide +kernel
theorem dX10_nextToken_223 : decode cX10_nextToken 223 = .ok (.getfield 62, 3) := by decide +kernel
theorem dX10_nextToken_226 : decode cX10_nextToken 226 = .ok (.aload_n 0, 1) := by decide +kernel
theorem dX10_nextToken_227 : decode cX10_nextToken 227 = .ok (.getfield 146, 3) := by decide +kernel
theorem dX10_nextToken_230 : decode cX10_nextToken 230 = .ok (.iaload, 1) := by decide +kernel
theorem dX10_nextToken_231 : decode cX10_nextToken 231 = .ok (.bipush 48, 2) := by decide +kernel
theorem dX10_nextToken_233 : decode cX10_nextToken 233 = .ok (.bipush 57, 2) := by decide +kernel
theorem dX10_nextToken_235 : decode cX10_nextToken 235 = .ok (.invokestatic 93, 3) := by decide +kernel
theorem dX10_nextToken_238 : decode cX10_nextToken 238 = .ok (.ifCond .eq 119, 3) := by decide +kernel
theorem dX10_nextToken_241 : decode cX10_nextToken 241 = .ok (.aload_n 0, 1) := by decide +kernel
theorem dX10_nextToken_242 : decode cX10_nextToken 242 = .ok (.getfield 146, 3) := by decide +kernel
theorem dX10_nextToken_245 : decode cX10_nextToken 245 = .ok (.aload_n 0, 1) := by decide +kernel
theorem dX10_nextToken_246 : decode cX10_nextToken 246 = .ok (.getfield 141, 3) := by decide +kernel
theorem dX10_nextToken_249 : decode cX10_nextToken 249 = .ok (.if_icmp .ge 84, 3) := by decide +kernel
theorem dX10_nextToken_252 : decode cX10_nextToken 252 = .ok (.aload_n 0, 1) := by decide +kernel
theorem dX10_nextToken_253 : decode cX10_nextToken 253 = .ok (.getfield 62, 3) := by decide +kernel
theorem dX10_nextToken_256 : decode cX10_nextToken 256 = .ok (.aload_n 0, 1) := by decide +kernel
theorem dX10_nextToken_257 : decode cX10_nextToken 257 = .ok (.getfield 146, 3) := by decide +kernel
theorem dX10_nextToken_260 : decode cX10_nextToken 260 = .ok (.iaload, 1) := by decide +kernel
theorem dX10_nextToken_261 : decode cX10_nextToken 261 = .ok (.bipush 48, 2) := by decide +kernel
theorem dX10_nextToken_263 : decode cX10_nextToken 263 = .ok (.bipush 57, 2) := by decide +kernel
theorem dX10_nextToken_265 : decode cX10_nextToken 265 = .ok (.invokestatic 93, 3) := by decide +kernel
theorem dX10_nextToken_268 : decode cX10_nextToken 268 = .ok (.ifCond .eq 65, 3) := by decide +kernel
theorem dX10_nextToken_271 : decode cX10_nextToken 271 = .ok (.aload_n 0, 1) := by decide +kernel
theorem dX10_nextToken_272 : decode cX10_nextToken 272 = .ok (.aload_n 0, 1) := by decide +kernel
theorem dX10_nextToken_273 : decode cX10_nextToken 273 = .ok (.getfield 152, 3) := by decide +kernel
theorem dX10_nextToken_276 : decode cX10_nextToken 276 = .ok (.iconst 2, 1) := by decide +kernel
theorem dX10_nextToken_277 : decode cX10_nextToken 277 = .ok (.if_icmp .ge 26, 3) := by decide +kernel
theorem dX10_nextToken_280 : decode cX10_nextToken 280 = .ok (.bipush 10, 2) := by decide +kernel
theorem dX10_nextToken_282 : decode cX10_nextToken 282 = .ok (.aload_n 0, 1) := by decide +kernel
theorem dX10_nextToken_283 : decode cX10_nextToken 283 = .ok (.getfield 155, 3) := by decide +kernel
theorem dX10_nextToken_286 : decode cX10_nextToken 286 = .ok (.imul, 1) := by decide +kernel
theorem dX10_nextToken_287 : decode cX10_nextToken 287 = .ok (.aload_n 0, 1) := by decide +kernel
theorem dX10_nextToken_288 : decode cX10_nextToken 288 = .ok (.getfield 62, 3) := by decide +kernel
theorem dX10_nextToken_291 : decode cX10_nextToken 291 = .ok (.aload_n 0, 1) := by decide +kernel
theorem dX10_nextToken_292 : decode cX10_nextToken 292 = .ok (.getfield 146, 3) := by decide +kernel
theorem dX10_nextToken_295 : decode cX10_nextToken 295 = .ok (.iaload, 1) := by decide +kernel
theorem dX10_nextToken_296 : decode cX10_nextToken 296 = .ok (.iadd, 1) := by decide +kernel
theorem dX10_nextToken_297 : decode cX10_nextToken 297 = .ok (.bipush 48, 2) := by decide +kernel
theorem dX10_nextToken_299 : decode cX10_nextToken 299 = .ok (.isub, 1) := by decide +kernel
theorem dX10_nextToken_300 : decode cX10_nextToken 300 = .ok (.goto 7, 3) := by decide +kernel
theorem dX10_nextToken_303 : decode cX10_nextToken 303 = .ok (.aload_n 0, 1) := by decide +kernel
theorem dX10_nextToken_304 : decode cX10_nextToken 304 = .ok (.getfield 155, 3) := by decide +kernel
theorem dX10_nextToken_307 : decode cX10_nextToken 307 = .ok (.putfield 155, 3) := by decide +kernel
theorem dX10_nextToken_310 : decode cX10_nextToken 310 = .ok (.aload_n 0, 1) := by decide +kernel
theorem dX10_nextToken_311 : decode cX10_nextToken 311 = .ok (.dup, 1) := by decide +kernel
theorem dX10_nextToken_312 : decode cX10_nextToken 312 = .ok (.getfield 152, 3) := by decide +kernel
theorem dX10_nextToken_315 : decode cX10_nextToken 315 = .ok (.iconst 1, 1) := by decide +kernel
theorem dX10_nextToken_316 : decode cX10_nextToken 316 = .ok (.iadd, 1) := by decide +kernel
theorem dX10_nextToken_317 : decode cX10_nextToken 317 = .ok (.putfield 152, 3) := by decide +kernel
theorem dX10_nextToken_320 : decode cX10_nextToken 320 = .ok (.aload_n 0, 1) := by decide +kernel
theorem dX10_nextToken_321 : decode cX10_nextToken 321 = .ok (.dup, 1) := by decide +kernel
theorem dX10_nextToken_322 : decode cX10_nextToken 322 = .ok (.getfield 146, 3) := by decide +kernel
theorem dX10_nextToken_325 : decode cX10_nextToken 325 = .ok (.iconst 1, 1) := by decide +kernel
theorem dX10_nextToken_326 : decode cX10_nextToken 326 = .ok (.iadd, 1) := by decide +kernel
theorem dX10_nextToken_327 : decode cX10_nextToken 327 = .ok (.putfield 146, 3) := by decide +kernel
theorem dX10_nextToken_330 : decode cX10_nextToken 330 = .ok (.goto (-89), 3) := by decide +kernel
theorem dX10_nextToken_333 : decode cX10_nextToken 333 = .ok (.aload_n 0, 1) := by decide +kernel
theorem dX10_nextToken_334 : decode cX10_nextToken 334 = .ok (.aload_n 0, 1) := by decide +kernel
theorem dX10_nextToken_335 : decode cX10_nextToken 335 = .ok (.getfield 152, 3) := by decide +kernel
theorem dX10_nextToken_338 : decode cX10_nextToken 338 = .ok (.iconst 2, 1) := by decide +kernel
theorem dX10_nextToken_339 : decode cX10_nextToken 339 = .ok (.if_icmp .le 9, 3) := by decide +kernel
theorem dX10_nextToken_342 : decode cX10_nextToken 342 = .ok (.ldc2_w 168, 3) := by decide +kernel
theorem dX10_nextToken_345 : decode cX10_nextToken 345 = .ok (.goto 6, 3) := by decide +kernel
theorem dX10_nextToken_348 : decode cX10_nextToken 348 = .ok (.ldc2_w 170, 3) := by decide +kernel
theorem dX10_nextToken_351 : decode cX10_nextToken 351 = .ok (.putfield 160, 3) := by decide +kernel
theorem dX10_nextToken_354 : decode cX10_nextToken 354 = .ok (.goto 40, 3) := by decide +kernel
theorem dX10_nextToken_357 : decode cX10_nextToken 357 = .ok (.aload_n 0, 1) := by decide +kernel
theorem dX10_nextToken_358 : decode cX10_nextToken 358 = .ok (.aload_n 0, 1) := by decide +kernel
theorem dX10_nextToken_359 : decode cX10_nextToken 359 = .ok (.getfield 62, 3) := by decide +kernel
theorem dX10_nextToken_362 : decode cX10_nextToken 362 = .ok (.aload_n 0, 1) := by decide +kernel
theorem dX10_nextToken_363 : decode cX10_nextToken 363 = .ok (.getfield 146, 3) := by decide +kernel
theorem dX10_nextToken_366 : decode cX10_nextToken 366 = .ok (.iaload, 1) := by decide +kernel
theorem dX10_nextToken_367 : decode cX10_nextToken 367 = .ok (.bipush 59, 2) := by decide +kernel
theorem dX10_nextToken_369 : decode cX10_nextToken 369 = .ok (.if_icmp .ne 9, 3) := by decide +kernel
theorem dX10_nextToken_372 : decode cX10_nextToken 372 = .ok (.ldc2_w 172, 3) := by decide +kernel
theorem dX10_nextToken_375 : decode cX10_nextToken 375 = .ok (.goto 6, 3) := by decide +kernel
theorem dX10_nextToken_378 : decode cX10_nextToken 378 = .ok (.ldc2_w 168, 3) := by decide +kernel
theorem dX10_nextToken_381 : decode cX10_nextToken 381 = .ok (.putfield 160, 3) := by decide +kernel
theorem dX10_nextToken_384 : decode cX10_nextToken 384 = .ok (.aload_n 0, 1) := by decide +kernel
theorem dX10_nextToken_385 : decode cX10_nextToken 385 = .ok (.dup, 1) := by decide +kernel
theorem dX10_nextToken_386 : decode cX10_nextToken 386 = .ok (.getfield 146, 3) := by decide +kernel
theorem dX10_nextToken_389 : decode cX10_nextToken 389 = .ok (.iconst 1, 1) := by decide +kernel
theorem dX10_nextToken_390 : decode cX10_nextToken 390 = .ok (.iadd, 1) := by decide +kernel
theorem dX10_nextToken_391 : decode cX10_nextToken 391 = .ok (.putfield 146, 3) := by decide +kernel
theorem dX10_nextToken_394 : decode cX10_nextToken 394 = .ok (.return_, 1) := by decide +kernel
theorem dX10_fails_0 : decode cX10_fails 0 = .ok (.aload_n 0, 1) := by decide +kernel
theorem dX10_fails_1 : decode cX10_fails 1 = .ok (.aload_n 0, 1) := by decide +kernel
theorem dX10_fails_2 : decode cX10_fails 2 = .ok (.getfield 149, 3) := by decide +kernel
theorem dX10_fails_5 : decode cX10_fails 5 = .ok (.putfield 174, 3) := by decide +kernel
theorem dX10_fails_8 : decode cX10_fails 8 = .ok (.iconst 0, 1) := by decide +kernel
theorem dX10_fails_9 : decode cX10_fails 9 = .ok (.ireturn, 1) := by decide +kernel
set_option maxRecDepth 20000 in
theorem ggX10_isNumber_X10_nextToken : GoodIn wsX10_isNumber wsX10_nextToken := goodIn_r _ [9, 10, 11, 12, 13, 14, 3, 15, 1, 16, 17, 18, 2, 19, 20, 21, 8, 22, 28, 29, 30, 31, 32, 33, 34, 35, 36, 37, 38, 39, 40, 41, 42, 43, 44, 45, 46, 47, 48, 49, 50, 51, 52, 53, 54, 55, 56, 57, 58, 59, 60, 61, 62, 63, 64, 65, 66] (by decide +kernel) (by decide +kernel)
set_option maxRecDepth 20000 in
theorem gX10_isNumber_X10_nextToken : GoodIn wsX10_isNumber (wsV RX10 177 RX10 yX10_nextToken wsX10_nextToken) := goodIn_app (goodIn_of _ (by decide +kernel)) ggX10_isNumber_X10_nextToken
set_option maxRecDepth 20000 in
theorem ggX10_isNumber_X10_in : GoodIn wsX10_isNumber wsX10_in := goodIn_r _ [22] (by decide +kernel) (by decide +kernel)
set_option maxRecDepth 20000 in
theorem gX10_isNumber_X10_in : GoodIn wsX10_isNumber (va_wsS RX10 93 yX10_in wsX10_in) := goodIn_app (goodIn_of _ (by decide +kernel)) ggX10_isNumber_X10_in
set_option maxRecDepth 20000 in
theorem ggX10_isNumber_X10_fails : GoodIn wsX10_isNumber wsX10_fails := goodIn_r _ [26, 13, 27, 28, 29, 30, 31, 32, 33, 34, 35, 36, 37, 38, 39, 40, 41, 42, 43, 44, 45, 46, 47, 48, 49, 50, 51, 52, 53, 54, 55, 56, 57, 58, 59, 60, 61, 62, 63, 64, 65, 66] (by decide +kernel) (by decide +kernel)
set_option maxRecDepth 20000 in
theorem gX10_isNumber_X10_fails : GoodIn wsX10_isNumber (wsV RX10 180 RX10 yX10_fails wsX10_fails) := goodIn_app (goodIn_of _ (by decide +kernel)) ggX10_isNumber_X10_fails
theorem dX10_isNumber_0 : decode cX10_isNumber 0 = .ok (.aload_n 0, 1) := by decide +kernel
theorem dX10_isNumber_1 : decode cX10_isNumber 1 = .ok (.invokevirtual 177, 3) := by decide +kernel
theorem dX10_isNumber_4 : decode cX10_isNumber 4 = .ok (.aload_n 0, 1) := by decide +kernel
theorem dX10_isNumber_5 : decode cX10_isNumber 5 = .ok (.getfield 160, 3) := by decide +kernel
theorem dX10_isNumber_8 : decode cX10_isNumber 8 = .ok (.ldc2_w 170, 3) := by decide +kernel
theorem dX10_isNumber_11 : decode cX10_isNumber 11 = .ok (.lcmp, 1) := by decide +kernel
theorem dX10_isNumber_12 : decode cX10_isNumber 12 = .ok (.ifCond .ne 15, 3) := by decide +kernel
theorem dX10_isNumber_15 : decode cX10_isNumber 15 = .ok (.aload_n 0, 1) := by decide +kernel
theorem dX10_isNumber_16 : decode cX10_isNumber 16 = .ok (.getfield 155, 3) := by decide +kernel
theorem dX10_isNumber_19 : decode cX10_isNumber 19 = .ok (.iload_n 2, 1) := by decide +kernel
theorem dX10_isNumber_20 : decode cX10_isNumber 20 = .ok (.iload_n 3, 1) := by decide +kernel
theorem dX10_isNumber_21 : decode cX10_isNumber 21 = .ok (.invokestatic 93, 3) := by decide +kernel
theorem dX10_isNumber_24 : decode cX10_isNumber 24 = .ok (.ifCond .ne 8, 3) := by decide +kernel
theorem dX10_isNumber_27 : decode cX10_isNumber 27 = .ok (.aload_n 0, 1) := by decide +kernel
theorem dX10_isNumber_28 : decode cX10_isNumber 28 = .ok (.invokevirtual 180, 3) := by decide +kernel
theorem dX10_isNumber_31 : decode cX10_isNumber 31 = .ok (.ireturn, 1) := by decide +kernel
theorem dX10_isNumber_32 : decode cX10_isNumber 32 = .ok (.aload_n 0, 1) := by decide +kernel
theorem dX10_isNumber_33 : decode cX10_isNumber 33 = .ok (.getfield 65, 3) := by decide +kernel
theorem dX10_isNumber_36 : decode cX10_isNumber 36 = .ok (.iload_n 1, 1) := by decide +kernel
theorem dX10_isNumber_37 : decode cX10_isNumber 37 = .ok (.aload_n 0, 1) := by decide +kernel
theorem dX10_isNumber_38 : decode cX10_isNumber 38 = .ok (.getfield 155, 3) := by decide +kernel
theorem dX10_isNumber_41 : decode cX10_isNumber 41 = .ok (.iastore, 1) := by decide +kernel
theorem dX10_isNumber_42 : decode cX10_isNumber 42 = .ok (.iconst 1, 1) := by decide +kernel
theorem dX10_isNumber_43 : decode cX10_isNumber 43 = .ok (.ireturn, 1) := by decide +kernel
set_option maxRecDepth 20000 in
theorem ggX10_isWord_X10_nextToken : GoodIn wsX10_isWord wsX10_nextToken := goodIn_r _ [6, 7, 8, 9, 10, 11, 12, 13, 1, 14, 15, 16, 17, 18, 19, 20, 5, 21, 27, 28, 29, 30, 31, 32, 33, 34, 35, 36, 37, 38, 39, 40, 41, 42, 43, 44, 45, 46, 47, 48, 49, 50, 51, 52, 53, 54, 55, 56, 57, 58, 59, 60, 61, 62, 63, 64, 65] (by decide +kernel) (by decide +kernel)
set_option maxRecDepth 20000 in
theorem gX10_isWord_X10_nextToken : GoodIn wsX10_isWord (wsV RX10 177 RX10 yX10_nextToken wsX10_nextToken) := goodIn_app (goodIn_of _ (by decide +kernel)) ggX10_isWord_X10_nextToken
set_option maxRecDepth 20000 in
theorem ggX10_isWord_X10_fails : GoodIn wsX10_isWord wsX10_fails := goodIn_r _ [25, 10, 26, 27, 28, 29, 30, 31, 32, 33, 34, 35, 36, 37, 38, 39, 40, 41, 42, 43, 44, 45, 46, 47, 48, 49, 50, 51, 52, 53, 54, 55, 56, 57, 58, 59, 60, 61, 62, 63, 64, 65] (by decide +kernel) (by decide +kernel)
set_option maxRecDepth 20000 in
theorem gX10_isWord_X10_fails : GoodIn wsX10_isWord (wsV RX10 180 RX10 yX10_fails wsX10_fails) := goodIn_app (goodIn_of _ (by decide +kernel)) ggX10_isWord_X10_fails
theorem dX10_isWord_0 : decode cX10_isWord 0 = .ok (.aload_n 0, 1) := by decide +kernel
theorem dX10_isWord_1 : decode cX10_isWord 1 = .ok (.invokevirtual 177, 3) := by decide +kernel
theorem dX10_isWord_4 : decode cX10_isWord 4 = .ok (.aload_n 0, 1) := by decide +kernel
theorem dX10_isWord_5 : decode cX10_isWord 5 = .ok (.getfield 160, 3) := by decide +kernel
theorem dX10_isWord_8 : decode cX10_isWord 8 = .ok (.lload_n 1, 1) := by decide +kernel
theorem dX10_isWord_9 : decode cX10_isWord 9 = .ok (.lcmp, 1) := by decide +kernel
theorem dX10_isWord_10 : decode cX10_isWord 10 = .ok (.ifCond .eq 10, 3) := by decide +kernel
theorem dX10_isWord_13 : decode cX10_isWord 13 = .ok (.aload_n 0, 1) := by decide +kernel
theorem dX10_isWord_14 : decode cX10_isWord 14 = .ok (.invokevirtual 180, 3) := by decide +kernel
theorem dX10_isWord_17 : decode cX10_isWord 17 = .ok (.ifCond .eq 7, 3) := by decide +kernel
theorem dX10_isWord_20 : decode cX10_isWord 20 = .ok (.iconst 1, 1) := by decide +kernel
theorem dX10_isWord_21 : decode cX10_isWord 21 = .ok (.goto 4, 3) := by decide +kernel
theorem dX10_isWord_24 : decode cX10_isWord 24 = .ok (.iconst 0, 1) := by decide +kernel
theorem dX10_isWord_25 : decode cX10_isWord 25 = .ok (.ireturn, 1) := by decide +kernel
set_option maxRecDepth 20000 in
theorem ggX10_isLine_X10_nextToken : GoodIn wsX10_isLine wsX10_nextToken := goodIn_r _ [12, 13, 14, 15, 16, 17, 18, 19, 2, 20, 21, 22, 23, 24, 25, 26, 11, 27, 41, 42, 43, 44, 45, 46, 47, 48, 49, 50, 51, 52, 53, 54, 55, 56, 57, 58, 59, 60, 61, 62, 63, 64, 65, 66, 67, 68, 69, 70, 71, 72, 73, 74, 75, 76, 77, 78, 79] (by decide +kernel) (by decide +kernel)
set_option maxRecDepth 20000 in
theorem gX10_isLine_X10_nextToken : GoodIn wsX10_isLine (wsV RX10 177 RX10 yX10_nextToken wsX10_nextToken) := goodIn_app (goodIn_of _ (by decide +kernel)) ggX10_isLine_X10_nextToken
set_option maxRecDepth 20000 in
theorem ggX10_isLine_X10_isNumber : GoodIn wsX10_isLine wsX10_isNumber := goodIn_r _ [31, 2, 23, 18, 1, 8, 9, 10, 11, 12, 13, 14, 15, 16, 17, 19, 20, 21, 22, 24, 25, 26, 27, 32, 33, 34, 35, 36, 41, 42, 43, 44, 45, 46, 47, 48, 49, 50, 51, 52, 53, 54, 55, 56, 57, 58, 59, 60, 61, 62, 63, 64, 65, 66, 67, 68, 69, 70, 71, 72, 73, 74, 75, 76, 77, 78, 79] (by decide +kernel) (by decide +kernel)
set_option maxRecDepth 20000 in
theorem gX10_isLine_X10_isNumber : GoodIn wsX10_isLine (wsV RX10 192 RX10 yX10_isNumber wsX10_isNumber) := goodIn_app (goodIn_of _ (by decide +kernel)) ggX10_isLine_X10_isNumber
set_option maxRecDepth 20000 in
theorem ggX10_isLine_X10_isWord : GoodIn wsX10_isLine wsX10_isWord := goodIn_r _ [40, 2, 8, 9, 10, 11, 12, 13, 14, 15, 16, 17, 18, 19, 20, 21, 22, 23, 24, 25, 26, 27, 32, 33, 34, 35, 36, 41, 42, 43, 44, 45, 46, 47, 48, 49, 50, 51, 52, 53, 54, 55, 56, 57, 58, 59, 60, 61, 62, 63, 64, 65, 66, 67, 68, 69, 70, 71, 72, 73, 74, 75, 76, 77, 78, 79] (by decide +kernel) (by decide +kernel)
set_option maxRecDepth 20000 in
theorem gX10_isLine_X10_isWord : GoodIn wsX10_isLine (wsV RX10 197 RX10 yX10_isWord wsX10_isWord) := goodIn_app (goodIn_of _ (by decide +kernel)) ggX10_isLine_X10_isWord
set_option maxRecDepth 20000 in
theorem ggX10_isLine_X10_fails : GoodIn wsX10_isLine wsX10_fails := goodIn_r _ [35, 16, 36, 41, 42, 43, 44, 45, 46, 47, 48, 49, 50, 51, 52, 53, 54, 55, 56, 57, 58, 59, 60, 61, 62, 63, 64, 65, 66, 67, 68, 69, 70, 71, 72, 73, 74, 75, 76, 77, 78, 79] (by decide +kernel) (by decide +kernel)
set_option maxRecDepth 20000 in
theorem gX10_isLine_X10_fails : GoodIn wsX10_isLine (wsV RX10 180 RX10 yX10_fails wsX10_fails) := goodIn_app (goodIn_of _ (by decide +kernel)) ggX10_isLine_X10_fails
theorem dX10_isLine_0 : decode cX10_isLine 0 = .ok (.aload_n 0, 1) := by decide +kernel
theorem dX10_isLine_1 : decode cX10_isLine 1 = .ok (.invokevirtual 177, 3) := by decide +kernel
theorem dX10_isLine_4 : decode cX10_isLine 4 = .ok (.aload_n 0, 1) := by decide +kernel
theorem dX10_isLine_5 : decode cX10_isLine 5 = .ok (.getfield 65, 3) := by decide +kernel
theorem dX10_isLine_8 : decode cX10_isLine 8 = .ok (.iload_n 1, 1) := by decide +kernel
theorem dX10_isLine_9 : decode cX10_isLine 9 = .ok (.aload_n 0, 1) := by decide +kernel
theorem dX10_isLine_10 : decode cX10_isLine 10 = .ok (.getfield 160, 3) := by decide +kernel
theorem dX10_isLine_13 : decode cX10_isLine 13 = .ok (.ldc2_w 184, 3) := by decide +kernel
theorem dX10_isLine_16 : decode cX10_isLine 16 = .ok (.lcmp, 1) := by decide +kernel
theorem dX10_isLine_17 : decode cX10_isLine 17 = .ok (.ifCond .ne 7, 3) := by decide +kernel
theorem dX10_isLine_20 : decode cX10_isLine 20 = .ok (.iconst 0, 1) := by decide +kernel
theorem dX10_isLine_21 : decode cX10_isLine 21 = .ok (.goto 49, 3) := by decide +kernel
theorem dX10_isLine_24 : decode cX10_isLine 24 = .ok (.aload_n 0, 1) := by decide +kernel
theorem dX10_isLine_25 : decode cX10_isLine 25 = .ok (.getfield 160, 3) := by decide +kernel
theorem dX10_isLine_28 : decode cX10_isLine 28 = .ok (.ldc2_w 186, 3) := by decide +kernel
theorem dX10_isLine_31 : decode cX10_isLine 31 = .ok (.lcmp, 1) := by decide +kernel
theorem dX10_isLine_32 : decode cX10_isLine 32 = .ok (.ifCond .ne 7, 3) := by decide +kernel
theorem dX10_isLine_35 : decode cX10_isLine 35 = .ok (.iconst 1, 1) := by decide +kernel
theorem dX10_isLine_36 : decode cX10_isLine 36 = .ok (.goto 34, 3) := by decide +kernel
theorem dX10_isLine_39 : decode cX10_isLine 39 = .ok (.aload_n 0, 1) := by decide +kernel
theorem dX10_isLine_40 : decode cX10_isLine 40 = .ok (.getfield 160, 3) := by decide +kernel
theorem dX10_isLine_43 : decode cX10_isLine 43 = .ok (.ldc2_w 188, 3) := by decide +kernel
theorem dX10_isLine_46 : decode cX10_isLine 46 = .ok (.lcmp, 1) := by decide +kernel
theorem dX10_isLine_47 : decode cX10_isLine 47 = .ok (.ifCond .ne 7, 3) := by decide +kernel
theorem dX10_isLine_50 : decode cX10_isLine 50 = .ok (.iconst 2, 1) := by decide +kernel
theorem dX10_isLine_51 : decode cX10_isLine 51 = .ok (.goto 19, 3) := by decide +kernel
theorem dX10_isLine_54 : decode cX10_isLine 54 = .ok (.aload_n 0, 1) := by decide +kernel
theorem dX10_isLine_55 : decode cX10_isLine 55 = .ok (.getfield 160, 3) := by decide +kernel
theorem dX10_isLine_58 : decode cX10_isLine 58 = .ok (.ldc2_w 190, 3) := by decide +kernel
theorem dX10_isLine_61 : decode cX10_isLine 61 = .ok (.lcmp, 1) := by decide +kernel
theorem dX10_isLine_62 : decode cX10_isLine 62 = .ok (.ifCond .ne 7, 3) := by decide +kernel
theorem dX10_isLine_65 : decode cX10_isLine 65 = .ok (.iconst 3, 1) := by decide +kernel
theorem dX10_isLine_66 : decode cX10_isLine 66 = .ok (.goto 4, 3) := by decide +kernel
theorem dX10_isLine_69 : decode cX10_isLine 69 = .ok (.iconst (-1), 1) := by decide +kernel
theorem dX10_isLine_70 : decode cX10_isLine 70 = .ok (.iastore, 1) := by decide +kernel
theorem dX10_isLine_71 : decode cX10_isLine 71 = .ok (.aload_n 0, 1) := by decide +kernel
theorem dX10_isLine_72 : decode cX10_isLine 72 = .ok (.getfield 65, 3) := by decide +kernel
theorem dX10_isLine_75 : decode cX10_isLine 75 = .ok (.iload_n 1, 1) := by decide +kernel
theorem dX10_isLine_76 : decode cX10_isLine 76 = .ok (.iconst 1, 1) := by decide +kernel
theorem dX10_isLine_77 : decode cX10_isLine 77 = .ok (.iadd, 1) := by decide +kernel
theorem dX10_isLine_78 : decode cX10_isLine 78 = .ok (.iconst 0, 1) := by decide +kernel
theorem dX10_isLine_79 : decode cX10_isLine 79 = .ok (.iastore, 1) := by decide +kernel
theorem dX10_isLine_80 : decode cX10_isLine 80 = .ok (.aload_n 0, 1) := by decide +kernel
theorem dX10_isLine_81 : decode cX10_isLine 81 = .ok (.getfield 65, 3) := by decide +kernel
theorem dX10_isLine_84 : decode cX10_isLine 84 = .ok (.iload_n 1, 1) := by decide +kernel
theorem dX10_isLine_85 : decode cX10_isLine 85 = .ok (.iaload, 1) := by decide +kernel
theorem dX10_isLine_86 : decode cX10_isLine 86 = .ok (.tableswitch 126 0 3 #[30, 62, 73, 84], 30) := by decide +kernel
theorem dX10_isLine_116 : decode cX10_isLine 116 = .ok (.aload_n 0, 1) := by decide +kernel
theorem dX10_isLine_117 : decode cX10_isLine 117 = .ok (.iload_n 1, 1) := by decide +kernel
theorem dX10_isLine_118 : decode cX10_isLine 118 = .ok (.iconst 1, 1) := by decide +kernel
theorem dX10_isLine_119 : decode cX10_isLine 119 = .ok (.iadd, 1) := by decide +kernel
theorem dX10_isLine_120 : decode cX10_isLine 120 = .ok (.iconst 0, 1) := by decide +kernel
theorem dX10_isLine_121 : decode cX10_isLine 121 = .ok (.bipush 7, 2) := by decide +kernel
theorem dX10_isLine_123 : decode cX10_isLine 123 = .ok (.invokevirtual 192, 3) := by decide +kernel
theorem dX10_isLine_126 : decode cX10_isLine 126 = .ok (.ifCond .eq 20, 3) := by decide +kernel
theorem dX10_isLine_129 : decode cX10_isLine 129 = .ok (.aload_n 0, 1) := by decide +kernel
theorem dX10_isLine_130 : decode cX10_isLine 130 = .ok (.iload_n 1, 1) := by decide +kernel
theorem dX10_isLine_131 : decode cX10_isLine 131 = .ok (.iconst 2, 1) := by decide +kernel
theorem dX10_isLine_132 : decode cX10_isLine 132 = .ok (.iadd, 1) := by decide +kernel
theorem dX10_isLine_133 : decode cX10_isLine 133 = .ok (.iconst 0, 1) := by decide +kernel
theorem dX10_isLine_134 : decode cX10_isLine 134 = .ok (.bipush 8, 2) := by decide +kernel
theorem dX10_isLine_136 : decode cX10_isLine 136 = .ok (.invokevirtual 192, 3) := by decide +kernel
theorem dX10_isLine_139 : decode cX10_isLine 139 = .ok (.ifCond .eq 7, 3) := by decide +kernel
theorem dX10_isLine_142 : decode cX10_isLine 142 = .ok (.iconst 1, 1) := by decide +kernel
theorem dX10_isLine_143 : decode cX10_isLine 143 = .ok (.goto 4, 3) := by decide +kernel
theorem dX10_isLine_146 : decode cX10_isLine 146 = .ok (.iconst 0, 1) := by decide +kernel
theorem dX10_isLine_147 : decode cX10_isLine 147 = .ok (.ireturn, 1) := by decide +kernel
theorem dX10_isLine_148 : decode cX10_isLine 148 = .ok (.aload_n 0, 1) := by decide +kernel
theorem dX10_isLine_149 : decode cX10_isLine 149 = .ok (.iload_n 1, 1) := by decide +kernel
theorem dX10_isLine_150 : decode cX10_isLine 150 = .ok (.iconst 2, 1) := by decide +kernel
theorem dX10_isLine_151 : decode cX10_isLine 151 = .ok (.iadd, 1) := by decide +kernel
theorem dX10_isLine_152 : decode cX10_isLine 152 = .ok (.iconst 1, 1) := by decide +kernel
theorem dX10_isLine_153 : decode cX10_isLine 153 = .ok (.bipush 99, 2) := by decide +kernel
theorem dX10_isLine_155 : decode cX10_isLine 155 = .ok (.invokevirtual 192, 3) := by decide +kernel
theorem dX10_isLine_158 : decode cX10_isLine 158 = .ok (.ireturn, 1) := by decide +kernel
theorem dX10_isLine_159 : decode cX10_isLine 159 = .ok (.aload_n 0, 1) := by decide +kernel
theorem dX10_isLine_160 : decode cX10_isLine 160 = .ok (.iload_n 1, 1) := by decide +kernel
theorem dX10_isLine_161 : decode cX10_isLine 161 = .ok (.iconst 2, 1) := by decide +kernel
theorem dX10_isLine_162 : decode cX10_isLine 162 = .ok (.iadd, 1) := by decide +kernel
theorem dX10_isLine_163 : decode cX10_isLine 163 = .ok (.iconst 0, 1) := by decide +kernel
theorem dX10_isLine_164 : decode cX10_isLine 164 = .ok (.bipush 8, 2) := by decide +kernel
theorem dX10_isLine_166 : decode cX10_isLine 166 = .ok (.invokevirtual 192, 3) := by decide +kernel
theorem dX10_isLine_169 : decode cX10_isLine 169 = .ok (.ireturn, 1) := by decide +kernel
theorem dX10_isLine_170 : decode cX10_isLine 170 = .ok (.aload_n 0, 1) := by decide +kernel
theorem dX10_isLine_171 : decode cX10_isLine 171 = .ok (.iload_n 1, 1) := by decide +kernel
theorem dX10_isLine_172 : decode cX10_isLine 172 = .ok (.iconst 1, 1) := by decide +kernel
theorem dX10_isLine_173 : decode cX10_isLine 173 = .ok (.iadd, 1) := by decide +kernel
theorem dX10_isLine_174 : decode cX10_isLine 174 = .ok (.iconst 0, 1) := by decide +kernel
theorem dX10_isLine_175 : decode cX10_isLine 175 = .ok (.bipush 7, 2) := by decide +kernel
theorem dX10_isLine_177 : decode cX10_isLine 177 = .ok (.invokevirtual 192, 3) := by decide +kernel
theorem dX10_isLine_180 : decode cX10_isLine 180 = .ok (.ifCond .eq 30, 3) := by decide +kernel
theorem dX10_isLine_183 : decode cX10_isLine 183 = .ok (.aload_n 0, 1) := by decide +kernel
theorem dX10_isLine_184 : decode cX10_isLine 184 = .ok (.ldc2_w 195, 3) := by decide +kernel
theorem dX10_isLine_187 : decode cX10_isLine 187 = .ok (.invokevirtual 197, 3) := by decide +kernel
theorem dX10_isLine_190 : decode cX10_isLine 190 = .ok (.ifCond .eq 20, 3) := by decide +kernel
theorem dX10_isLine_193 : decode cX10_isLine 193 = .ok (.aload_n 0, 1) := by decide +kernel
theorem dX10_isLine_194 : decode cX10_isLine 194 = .ok (.iload_n 1, 1) := by decide +kernel
theorem dX10_isLine_195 : decode cX10_isLine 195 = .ok (.iconst 2, 1) := by decide +kernel
theorem dX10_isLine_196 : decode cX10_isLine 196 = .ok (.iadd, 1) := by decide +kernel
theorem dX10_isLine_197 : decode cX10_isLine 197 = .ok (.iconst 1, 1) := by decide +kernel
theorem dX10_isLine_198 : decode cX10_isLine 198 = .ok (.bipush 99, 2) := by decide +kernel
theorem dX10_isLine_200 : decode cX10_isLine 200 = .ok (.invokevirtual 192, 3) := by decide +kernel
theorem dX10_isLine_203 : decode cX10_isLine 203 = .ok (.ifCond .eq 7, 3) := by decide +kernel
theorem dX10_isLine_206 : decode cX10_isLine 206 = .ok (.iconst 1, 1) := by decide +kernel
theorem dX10_isLine_207 : decode cX10_isLine 207 = .ok (.goto 4, 3) := by decide +kernel
theorem dX10_isLine_210 : decode cX10_isLine 210 = .ok (.iconst 0, 1) := by decide +kernel
theorem dX10_isLine_211 : decode cX10_isLine 211 = .ok (.ireturn, 1) := by decide +kernel
theorem dX10_isLine_212 : decode cX10_isLine 212 = .ok (.aload_n 0, 1) := by decide +kernel
theorem dX10_isLine_213 : decode cX10_isLine 213 = .ok (.invokevirtual 180, 3) := by decide +kernel
theorem dX10_isLine_216 : decode cX10_isLine 216 = .ok (.ireturn, 1) := by decide +kernel
set_option maxRecDepth 20000 in
theorem ggX10_isRead_X10_isLine : GoodIn wsX10_isRead wsX10_isLine := goodIn_r _ [10, 11, 3, 12, 13, 14, 15, 16, 17, 18, 19, 9, 20, 1, 21, 22, 23, 24, 25, 5, 26, 27, 28, 29, 4, 30, 31, 32, 33, 34, 35, 36, 37, 38, 39, 40, 41, 42, 43, 44, 45, 46, 47, 48, 49, 50, 51, 52, 53, 54, 55, 56, 57, 58, 59, 60, 61, 62, 63, 64, 65, 66, 67, 68, 69, 70, 71, 72, 73, 74, 75, 76, 77, 78, 79, 80, 81, 82, 83, 84] (by decide +kernel) (by decide +kernel)
set_option maxRecDepth 20000 in
theorem gX10_isRead_X10_isLine : GoodIn wsX10_isRead (wsV RX10 204 RX10 yX10_isLine wsX10_isLine) := goodIn_app (goodIn_of _ (by decide +kernel)) ggX10_isRead_X10_isLine
set_option maxRecDepth 20000 in
theorem ggX10_isRead_X10_nextToken : GoodIn wsX10_isRead wsX10_nextToken := goodIn_r _ [20, 1, 21, 22, 23, 24, 25, 5, 3, 26, 27, 28, 29, 4, 30, 31, 9, 32, 46, 47, 48, 49, 50, 51, 52, 53, 54, 55, 56, 57, 58, 59, 60, 61, 62, 63, 64, 65, 66, 67, 68, 69, 70, 71, 72, 73, 74, 75, 76, 77, 78, 79, 80, 81, 82, 83, 84] (by decide +kernel) (by decide +kernel)
set_option maxRecDepth 20000 in
theorem gX10_isRead_X10_nextToken : GoodIn wsX10_isRead (wsV RX10 177 RX10 yX10_nextToken wsX10_nextToken) := goodIn_app (goodIn_of _ (by decide +kernel)) ggX10_isRead_X10_nextToken
set_option maxRecDepth 20000 in
theorem ggX10_isRead_X10_fails : GoodIn wsX10_isRead wsX10_fails := goodIn_r _ [40, 23, 41, 46, 47, 48, 49, 50, 51, 52, 53, 54, 55, 56, 57, 58, 59, 60, 61, 62, 63, 64, 65, 66, 67, 68, 69, 70, 71, 72, 73, 74, 75, 76, 77, 78, 79, 80, 81, 82, 83, 84] (by decide +kernel) (by decide +kernel)
set_option maxRecDepth 20000 in
theorem gX10_isRead_X10_fails : GoodIn wsX10_isRead (wsV RX10 180 RX10 yX10_fails wsX10_fails) := goodIn_app (goodIn_of _ (by decide +kernel)) ggX10_isRead_X10_fails
theorem dX10_isRead_0 : decode cX10_isRead 0 = .ok (.aload_n 0, 1) := by decide +kernel
theorem dX10_isRead_1 : decode cX10_isRead 1 = .ok (.iconst 0, 1) := by decide +kernel
theorem dX10_isRead_2 : decode cX10_isRead 2 = .ok (.putfield 146, 3) := by decide +kernel
theorem dX10_isRead_5 : decode cX10_isRead 5 = .ok (.aload_n 0, 1) := by decide +kernel
theorem dX10_isRead_6 : decode cX10_isRead 6 = .ok (.iconst 0, 1) := by decide +kernel
theorem dX10_isRead_7 : decode cX10_isRead 7 = .ok (.putfield 201, 3) := by decide +kernel
theorem dX10_isRead_10 : decode cX10_isRead 10 = .ok (.iconst 1, 1) := by decide +kernel
theorem dX10_isRead_11 : decode cX10_isRead 11 = .ok (.istore_n 1, 1) := by decide +kernel
theorem dX10_isRead_12 : decode cX10_isRead 12 = .ok (.iload_n 1, 1) := by decide +kernel
theorem dX10_isRead_13 : decode cX10_isRead 13 = .ok (.ifCond .eq 61, 3) := by decide +kernel
theorem dX10_isRead_16 : decode cX10_isRead 16 = .ok (.aload_n 0, 1) := by decide +kernel
theorem dX10_isRead_17 : decode cX10_isRead 17 = .ok (.iconst 3, 1) := by decide +kernel
theorem dX10_isRead_18 : decode cX10_isRead 18 = .ok (.aload_n 0, 1) := by decide +kernel
theorem dX10_isRead_19 : decode cX10_isRead 19 = .ok (.getfield 201, 3) := by decide +kernel
theorem dX10_isRead_22 : decode cX10_isRead 22 = .ok (.imul, 1) := by decide +kernel
theorem dX10_isRead_23 : decode cX10_isRead 23 = .ok (.invokevirtual 204, 3) := by decide +kernel
theorem dX10_isRead_26 : decode cX10_isRead 26 = .ok (.ifCond .ne 5, 3) := by decide +kernel
theorem dX10_isRead_29 : decode cX10_isRead 29 = .ok (.iconst 0, 1) := by decide +kernel
theorem dX10_isRead_30 : decode cX10_isRead 30 = .ok (.ireturn, 1) := by decide +kernel
theorem dX10_isRead_31 : decode cX10_isRead 31 = .ok (.aload_n 0, 1) := by decide +kernel
theorem dX10_isRead_32 : decode cX10_isRead 32 = .ok (.dup, 1) := by decide +kernel
theorem dX10_isRead_33 : decode cX10_isRead 33 = .ok (.getfield 201, 3) := by decide +kernel
theorem dX10_isRead_36 : decode cX10_isRead 36 = .ok (.iconst 1, 1) := by decide +kernel
theorem dX10_isRead_37 : decode cX10_isRead 37 = .ok (.iadd, 1) := by decide +kernel
theorem dX10_isRead_38 : decode cX10_isRead 38 = .ok (.putfield 201, 3) := by decide +kernel
theorem dX10_isRead_41 : decode cX10_isRead 41 = .ok (.aload_n 0, 1) := by decide +kernel
theorem dX10_isRead_42 : decode cX10_isRead 42 = .ok (.invokevirtual 177, 3) := by decide +kernel
theorem dX10_isRead_45 : decode cX10_isRead 45 = .ok (.aload_n 0, 1) := by decide +kernel
theorem dX10_isRead_46 : decode cX10_isRead 46 = .ok (.getfield 160, 3) := by decide +kernel
theorem dX10_isRead_49 : decode cX10_isRead 49 = .ok (.ldc2_w 172, 3) := by decide +kernel
theorem dX10_isRead_52 : decode cX10_isRead 52 = .ok (.lcmp, 1) := by decide +kernel
theorem dX10_isRead_53 : decode cX10_isRead 53 = .ok (.ifCond .ne 16, 3) := by decide +kernel
theorem dX10_isRead_56 : decode cX10_isRead 56 = .ok (.aload_n 0, 1) := by decide +kernel
theorem dX10_isRead_57 : decode cX10_isRead 57 = .ok (.getfield 201, 3) := by decide +kernel
theorem dX10_isRead_60 : decode cX10_isRead 60 = .ok (.bipush 10, 2) := by decide +kernel
theorem dX10_isRead_62 : decode cX10_isRead 62 = .ok (.if_icmp .ge 7, 3) := by decide +kernel
theorem dX10_isRead_65 : decode cX10_isRead 65 = .ok (.iconst 1, 1) := by decide +kernel
theorem dX10_isRead_66 : decode cX10_isRead 66 = .ok (.goto 4, 3) := by decide +kernel
theorem dX10_isRead_69 : decode cX10_isRead 69 = .ok (.iconst 0, 1) := by decide +kernel
theorem dX10_isRead_70 : decode cX10_isRead 70 = .ok (.istore_n 1, 1) := by decide +kernel
theorem dX10_isRead_71 : decode cX10_isRead 71 = .ok (.goto (-59), 3) := by decide +kernel
theorem dX10_isRead_74 : decode cX10_isRead 74 = .ok (.aload_n 0, 1) := by decide +kernel
theorem dX10_isRead_75 : decode cX10_isRead 75 = .ok (.getfield 160, 3) := by decide +kernel
theorem dX10_isRead_78 : decode cX10_isRead 78 = .ok (.ldc2_w 158, 3) := by decide +kernel
theorem dX10_isRead_81 : decode cX10_isRead 81 = .ok (.lcmp, 1) := by decide +kernel
theorem dX10_isRead_82 : decode cX10_isRead 82 = .ok (.ifCond .eq 10, 3) := by decide +kernel
theorem dX10_isRead_85 : decode cX10_isRead 85 = .ok (.aload_n 0, 1) := by decide +kernel
theorem dX10_isRead_86 : decode cX10_isRead 86 = .ok (.invokevirtual 180, 3) := by decide +kernel
theorem dX10_isRead_89 : decode cX10_isRead 89 = .ok (.ifCond .eq 7, 3) := by decide +kernel
theorem dX10_isRead_92 : decode cX10_isRead 92 = .ok (.iconst 1, 1) := by decide +kernel
theorem dX10_isRead_93 : decode cX10_isRead 93 = .ok (.goto 4, 3) := by decide +kernel
theorem dX10_isRead_96 : decode cX10_isRead 96 = .ok (.iconst 0, 1) := by decide +kernel
theorem dX10_isRead_97 : decode cX10_isRead 97 = .ok (.ireturn, 1) := by decide +kernel
set_option maxRecDepth 20000 in
theorem ggX10_fault_X10_isRead : GoodIn wsX10_fault wsX10_isRead := goodIn_r _ [6, 7, 8, 9, 10, 11, 12, 13, 14, 5, 15, 16, 17, 18, 19, 20, 21, 22, 23, 24, 25, 26, 27, 28, 29, 30, 31, 32, 33, 34, 35, 36, 37, 38, 39, 40, 41, 42, 43, 44, 45, 1, 46, 47, 48, 49, 50, 51, 52, 53, 54, 55, 56, 57, 58, 59, 60, 61, 62, 63, 64, 65, 66, 67, 68, 69, 70, 71, 72, 73, 74, 75, 76, 77, 78, 79, 80, 81, 82, 83, 84, 85, 86, 87, 88] (by decide +kernel) (by decide +kernel)
set_option maxRecDepth 20000 in
theorem gX10_fault_X10_isRead : GoodIn wsX10_fault (wsV RX10 207 RX10 yX10_isRead wsX10_isRead) := goodIn_app (goodIn_of _ (by decide +kernel)) ggX10_fault_X10_isRead
theorem dX10_fault_0 : decode cX10_fault 0 = .ok (.aload_n 0, 1) := by decide +kernel
theorem dX10_fault_1 : decode cX10_fault 1 = .ok (.invokevirtual 207, 3) := by decide +kernel
theorem dX10_fault_4 : decode cX10_fault 4 = .ok (.ifCond .eq 7, 3) := by decide +kernel
theorem dX10_fault_7 : decode cX10_fault 7 = .ok (.iconst (-1), 1) := by decide +kernel
theorem dX10_fault_8 : decode cX10_fault 8 = .ok (.goto 7, 3) := by decide +kernel
theorem dX10_fault_11 : decode cX10_fault 11 = .ok (.aload_n 0, 1) := by decide +kernel
theorem dX10_fault_12 : decode cX10_fault 12 = .ok (.getfield 174, 3) := by decide +kernel
theorem dX10_fault_15 : decode cX10_fault 15 = .ok (.ireturn, 1) := by decide +kernel
set_option maxRecDepth 20000 in
theorem ggX10_rules_X10_isRead : GoodIn wsX10_rules wsX10_isRead := goodIn_r _ [10, 11, 3, 12, 13, 14, 15, 16, 17, 9, 18, 2, 19, 20, 21, 22, 23, 24, 25, 26, 27, 5, 28, 29, 30, 31, 32, 33, 34, 35, 36, 37, 38, 39, 40, 41, 42, 43, 44, 45, 46, 47, 48, 49, 50, 51, 52, 53, 54, 55, 56, 57, 58, 59, 60, 61, 62, 63, 64, 65, 66, 67, 68, 69, 70, 71, 72, 73, 74, 75, 76, 77, 78, 79, 80, 81, 82, 83, 84, 85, 86, 87, 88, 89, 90] (by decide +kernel) (by decide +kernel)
set_option maxRecDepth 20000 in
theorem gX10_rules_X10_isRead : GoodIn wsX10_rules (wsV RX10 207 RX10 yX10_isRead wsX10_isRead) := goodIn_app (goodIn_of _ (by decide +kernel)) ggX10_rules_X10_isRead
theorem dX10_rules_0 : decode cX10_rules 0 = .ok (.aload_n 0, 1) := by decide +kernel
theorem dX10_rules_1 : decode cX10_rules 1 = .ok (.invokevirtual 207, 3) := by decide +kernel
theorem dX10_rules_4 : decode cX10_rules 4 = .ok (.ifCond .ne 6, 3) := by decide +kernel
theorem dX10_rules_7 : decode cX10_rules 7 = .ok (.bipush (-4), 2) := by decide +kernel
theorem dX10_rules_9 : decode cX10_rules 9 = .ok (.ireturn, 1) := by decide +kernel
theorem dX10_rules_10 : decode cX10_rules 10 = .ok (.iconst 0, 1) := by decide +kernel
theorem dX10_rules_11 : decode cX10_rules 11 = .ok (.istore_n 1, 1) := by decide +kernel
theorem dX10_rules_12 : decode cX10_rules 12 = .ok (.iload_n 1, 1) := by decide +kernel
theorem dX10_rules_13 : decode cX10_rules 13 = .ok (.bipush 30, 2) := by decide +kernel
theorem dX10_rules_15 : decode cX10_rules 15 = .ok (.if_icmp .ge 21, 3) := by decide +kernel
theorem dX10_rules_18 : decode cX10_rules 18 = .ok (.aload_n 0, 1) := by decide +kernel
theorem dX10_rules_19 : decode cX10_rules 19 = .ok (.getfield 68, 3) := by decide +kernel
theorem dX10_rules_22 : decode cX10_rules 22 = .ok (.iload_n 1, 1) := by decide +kernel
theorem dX10_rules_23 : decode cX10_rules 23 = .ok (.aload_n 0, 1) := by decide +kernel
theorem dX10_rules_24 : decode cX10_rules 24 = .ok (.getfield 65, 3) := by decide +kernel
theorem dX10_rules_27 : decode cX10_rules 27 = .ok (.iload_n 1, 1) := by decide +kernel
theorem dX10_rules_28 : decode cX10_rules 28 = .ok (.iaload, 1) := by decide +kernel
theorem dX10_rules_29 : decode cX10_rules 29 = .ok (.iastore, 1) := by decide +kernel
theorem dX10_rules_30 : decode cX10_rules 30 = .ok (.iinc 1 1, 3) := by decide +kernel
theorem dX10_rules_33 : decode cX10_rules 33 = .ok (.goto (-21), 3) := by decide +kernel
theorem dX10_rules_36 : decode cX10_rules 36 = .ok (.aload_n 0, 1) := by decide +kernel
theorem dX10_rules_37 : decode cX10_rules 37 = .ok (.aload_n 0, 1) := by decide +kernel
theorem dX10_rules_38 : decode cX10_rules 38 = .ok (.getfield 201, 3) := by decide +kernel
theorem dX10_rules_41 : decode cX10_rules 41 = .ok (.putfield 210, 3) := by decide +kernel
theorem dX10_rules_44 : decode cX10_rules 44 = .ok (.aload_n 0, 1) := by decide +kernel
theorem dX10_rules_45 : decode cX10_rules 45 = .ok (.iconst 0, 1) := by decide +kernel
theorem dX10_rules_46 : decode cX10_rules 46 = .ok (.putfield 141, 3) := by decide +kernel
theorem dX10_rules_49 : decode cX10_rules 49 = .ok (.aload_n 0, 1) := by decide +kernel
theorem dX10_rules_50 : decode cX10_rules 50 = .ok (.getfield 210, 3) := by decide +kernel
theorem dX10_rules_53 : decode cX10_rules 53 = .ok (.ireturn, 1) := by decide +kernel
set_option maxHeartbeats 4000000 in
set_option maxRecDepth 100000 in
theorem k_X10_nextToken (l : Launch) (dC : Nat → ClassId) (dI : Nat → Nat → Nat) (cI cZ cQ : ClassId) (b : Nat → Nat) (mday : Int32) (mdoo : Int32) (mdA : Nat → Int32) (mdB : Nat → Int32) (mfar : Nat → Int32) (mmar : Nat → Int32) (mtel : Int32) (mgai : Int32) (mfal : Nat → Int32) (mtop : Nat → Int32) (mstr : Nat → Int32) (mgho : Nat → Int32) (mfai : Nat → Int32) (mpto : Nat → Int32) (mwal : Nat → Int32) (mahd : Nat → Int32) (mahf : Nat → Int32) (mcho : Nat → Int32) (mbes : Nat → Int32) (mbyt : Int32) (mtxt : Nat → Int32) (mpos : Int32) (mtka : Int32) (mtok : Int64) (mdig : Int32) (mnum : Int32) (mfau : Int32) (mrdm : Int32) (mrea : Nat → Int32) (mlin : Int32) (mlne : Nat → Int32) (mthg : Nat → Int32) (mord : Nat → Int32) (mbor : Nat → Int32) (mbsm : Int32) (mans : Nat → Int32) (mand : Nat → Int32) (manr : Nat → Int32) (mali : Nat → Int32) (sz : Nat) (r_mday : 0 ≤ mday.toInt ∧ mday.toInt ≤ 400) (r_mdoo : 0 ≤ mdoo.toInt ∧ mdoo.toInt ≤ 14) (r_mdA : rg 14 (0) (7) mdA) (r_mdB : rg 14 (0) (7) mdB) (r_mmar : rg 24 (0) (255) mmar) (r_mgai : 0 ≤ mgai.toInt ∧ mgai.toInt ≤ 100) (r_mfal : rg 11 (0) (30) mfal) (r_mtop : rg 48 (-1) (23) mtop) (r_mstr : rg 48 (0) (100) mstr) (r_mgho : rg 48 (-1) (23) mgho) (r_mfai : rg 48 (0) (100) mfai) (r_mahd : rg 240 (0) (100) mahd) (r_mahf : rg 240 (0) (100) mahf) (r_mcho : rg 5 (-1) (9) mcho) (r_mbyt : 0 ≤ mbyt.toInt ∧ mbyt.toInt ≤ 160) (r_mpos : 0 ≤ mpos.toInt ∧ mpos.toInt ≤ 160) (r_mrdm : 0 ≤ mrdm.toInt ∧ mrdm.toInt ≤ 10) (r_mlin : 0 ≤ mlin.toInt ∧ mlin.toInt ≤ 10) (r_mthg : rg 8 (0) (31) mthg) (r_mord : rg 8 (-1) (8) mord) (r_mans : rg 4 (0) (12) mans) (q0 : mpos.toInt ≤ mbyt.toInt) : KV l yX10_nextToken wsX10_nextToken { frames := 1, cells := 0, slots := 0, locals := 22 } (dC, dI) (TY cI cZ cQ) (wMod cI cZ cQ b mday mdoo mdA mdB mfar mmar mtel mgai mfal mtop mstr mgho mfai mpto mwal mahd mahf mcho mbes mbyt mtxt mpos mtka mtok mdig mnum mfau mrdm mrea mlin mlne mthg mord mbor mbsm mans mand manr mali) [.ref (b 39)] sz 0 0 (fun (u : US) => ((u.1 0 0).toInt ≤ mbyt.toInt) ∧ (0 ≤ (u.1 0 0).toInt ∧ (u.1 0 0).toInt ≤ 160)) (fun u : US => (wMod cI cZ cQ b mday mdoo mdA mdB mfar mmar mtel mgai mfal mtop mstr mgho mfai mpto mwal mahd mahf mcho mbes mbyt mtxt (u.1 0 0) (u.1 1 0) u.2.1 (u.1 3 0) (u.1 4 0) mfau mrdm mrea mlin mlne mthg mord mbor mbsm mans mand manr mali)) := by
  refine Met.ofW (cc := cX10_nextToken) (maxL := 1) (ret := none) (by decide) rfl ?_
  intro p e s m args below meth c s₁ B hml hv
  obtain ⟨rfl, hsz, hP, hK, hD0, hN⟩ := hv
  have hx := B.exec
  have hb := B.bytes
  have hr := B.returns
  have hts := atoms_spec (ws := wsX10_nextToken) B.pre
  have hown : s.vm.findClass RX10 = some m.cls := findClass_of_methodNamed B.named
  have hlocks := B.notSynchronized
  have lf146 := hts (.fieldLink RX10 146 "PalaceOfRoomsModel" "position" "I") (by decide +kernel)
  have inX10 : ∀ w ∈ wsX100, w ∈ wsX10_nextToken := by decide +kernel
  have lf141 := hts (.fieldLink RX10 141 "PalaceOfRoomsModel" "bytes" "I") (by decide +kernel)
  have lf149 := hts (.fieldLink RX10 149 "PalaceOfRoomsModel" "tokenAt" "I") (by decide +kernel)
  have lf152 := hts (.fieldLink RX10 152 "PalaceOfRoomsModel" "digits" "I") (by decide +kernel)
  have lf155 := hts (.fieldLink RX10 155 "PalaceOfRoomsModel" "number" "I") (by decide +kernel)
  have lf62 := hts (.fieldLink RX10 62 "PalaceOfRoomsModel" "text" "[I") (by decide +kernel)
  have lf160 := hts (.fieldLink RX10 160 "PalaceOfRoomsModel" "token" "J") (by decide +kernel)
  subst hsz
  have hD := hD0.self (sz := s.heap.size)
  generalize hAe : va_A (wMod cI cZ cQ b mday mdoo mdA mdB mfar mmar mtel mgai mfal mtop mstr mgho mfai mpto mwal mahd mahf mcho mbes mbyt mtxt mpos mtka mtok mdig mnum mfau mrdm mrea mlin mlne mthg mord mbor mbsm mans mand manr mali) s.heap.size = A at hD ⊢
  have hA : ∀ q : Nat, s.heap.size ≤ q → A q := fun q h => by rw [← hAe]; exact Or.inr h
  have hS : va_S A s.heap s.heap [] := va_S.rf
  have hl := lv_entry ([.ref (b 39)]) (n := 1) (Nat.le_of_ble_eq_true rfl)
  rw [lg_entry_eq]
  generalize (lg_sl ([.ref (b 39)]) ++ List.replicate (1 - (lg_sl ([.ref (b 39)])).length) Slot.unset).toArray = ls at hl ⊢
  have hl : lv_has ls 1 [(0, .ref (b 39))] := hl
  have L0 : ∀ (nn : Nat) (mpos_0 : Int32) (H : Heap) (locs : List Loc) (ls : Array Slot), (0 ≤ mpos_0.toInt ∧ mpos_0.toInt ≤ 160) → (mpos_0.toInt ≤ mbyt.toInt) → (mbyt.toInt - mpos_0.toInt).toNat < nn → va_P (dC, dI) vwCl (wMod cI cZ cQ b mday mdoo mdA mdB mfar mmar mtel mgai mfal mtop mstr mgho mfai mpto mwal mahd mahf mcho mbes mbyt mtxt mpos_0 mtka mtok mdig mnum mfau mrdm mrea mlin mlne mthg mord mbor mbsm mans mand manr mali) H → va_D A (wMod cI cZ cQ b mday mdoo mdA mdB mfar mmar mtel mgai mfal mtop mstr mgho mfai mpto mwal mahd mahf mcho mbes mbyt mtxt mpos_0 mtka mtok mdig mnum mfau mrdm mrea mlin mlne mthg mord mbor mbsm mans mand manr mali) → va_S A s.heap H locs → lv_has ls 1 [(0, .ref (b 39))] → W p l e (headSpec wsX10_nextToken { frames := 1, cells := 0, slots := 0, locals := 22 }).room s m ([.ref (b 39)] : List Value).toArray below meth c H locs 0 0 (MQ below (va_Qv (fun (u : US) => ((u.1 0 0).toInt ≤ mbyt.toInt) ∧ (0 ≤ (u.1 0 0).toInt ∧ (u.1 0 0).toInt ≤ 160)) (Bw (dC, dI) A (fun u : US => (wMod cI cZ cQ b mday mdoo mdA mdB mfar mmar mtel mgai mfal mtop mstr mgho mfai mpto mwal mahd mahf mcho mbes mbyt mtxt (u.1 0 0) (u.1 1 0) u.2.1 (u.1 3 0) (u.1 4 0) mfau mrdm mrea mlin mlne mthg mord mbor mbsm mans mand manr mali))) A) ([.ref (b 39)] : List Value).toArray s 0 0 A) (F0 m 0 ls []) := by
    intro nn
    induction nn with
    | zero =>
      intro mpos_0 H locs ls r_mpos_0 i0_0 hm
      exact absurd hm (Nat.not_lt_zero _)
    | succ nn ih0 =>
      intro mpos_0 H locs ls r_mpos_0 i0_0 hm hP hD hS hl
      refine lv_aload_n hx hb dX10_nextToken_0 rfl (lv_at hl 0 rfl) ?_
      refine va_get (D := (dC, dI)) (ci := 10) (v := .int mpos_0) (C := RX10) (T := TX10) (N := 39) hx hb hts inX10 hown hK hP 0 rfl rfl 21 (by decide) lf146 (fun _ h9 => h9) rfl dX10_nextToken_1 ?_
      refine lv_aload_n hx hb dX10_nextToken_4 rfl (lv_at hl 0 rfl) ?_
      refine va_get (D := (dC, dI)) (ci := 10) (v := .int mbyt) (C := RX10) (T := TX10) (N := 39) hx hb hts inX10 hown hK hP 0 rfl rfl 19 (by decide) lf141 (fun _ h9 => h9) rfl dX10_nextToken_5 ?_
      refine lv_icmp_ge (tgt := 38) hx hb dX10_nextToken_8 (by decide) (fun c1 => ?_) (fun c1 => ?_)
      · have dc1 : mbyt.toInt ≤ mpos_0.toInt := leC rfl rfl c1
        refine lv_aload_n hx hb dX10_nextToken_38 rfl (lv_at hl 0 rfl) ?_
        refine lv_aload_n hx hb dX10_nextToken_39 rfl (lv_at hl 0 rfl) ?_
        refine va_get (D := (dC, dI)) (ci := 10) (v := .int mpos_0) (C := RX10) (T := TX10) (N := 39) hx hb hts inX10 hown hK hP 0 rfl rfl 21 (by decide) lf146 (fun _ h9 => h9) rfl dX10_nextToken_40 ?_
        refine va_put (D := (dC, dI)) (ci := 10) (v := .int mpos_0) (ty := .int) (C := RX10) (T := TX10) (N := 39) hx hb hts inX10 tyX10 tyX10_ok nmX10 hown hK hP hD hS 0 rfl rfl 22 (by decide) lf149 (fun _ h9 => h9) rfl (by decide +kernel) rfl rfl (Nat.le_of_ble_eq_true rfl) dX10_nextToken_43 (fun H locs hP hD hS => ?_)
        have hP : va_P (dC, dI) vwCl (wMod cI cZ cQ b mday mdoo mdA mdB mfar mmar mtel mgai mfal mtop mstr mgho mfai mpto mwal mahd mahf mcho mbes mbyt mtxt mpos_0 mpos_0 mtok mdig mnum mfau mrdm mrea mlin mlne mthg mord mbor mbsm mans mand manr mali) H := hP
        have hD : va_D A (wMod cI cZ cQ b mday mdoo mdA mdB mfar mmar mtel mgai mfal mtop mstr mgho mfai mpto mwal mahd mahf mcho mbes mbyt mtxt mpos_0 mpos_0 mtok mdig mnum mfau mrdm mrea mlin mlne mthg mord mbor mbsm mans mand manr mali) := hD
        refine lv_aload_n hx hb dX10_nextToken_46 rfl (lv_at hl 0 rfl) ?_
        refine lv_iconst (v := 0) hx hb dX10_nextToken_47 (by decide) ?_
        refine va_put (D := (dC, dI)) (ci := 10) (v := .int 0) (ty := .int) (C := RX10) (T := TX10) (N := 39) hx hb hts inX10 tyX10 tyX10_ok nmX10 hown hK hP hD hS 0 rfl rfl 24 (by decide) lf152 (fun _ h9 => h9) rfl (by decide +kernel) rfl rfl (Nat.le_of_ble_eq_true rfl) dX10_nextToken_48 (fun H locs hP hD hS => ?_)
        have hP : va_P (dC, dI) vwCl (wMod cI cZ cQ b mday mdoo mdA mdB mfar mmar mtel mgai mfal mtop mstr mgho mfai mpto mwal mahd mahf mcho mbes mbyt mtxt mpos_0 mpos_0 mtok 0 mnum mfau mrdm mrea mlin mlne mthg mord mbor mbsm mans mand manr mali) H := hP
        have hD : va_D A (wMod cI cZ cQ b mday mdoo mdA mdB mfar mmar mtel mgai mfal mtop mstr mgho mfai mpto mwal mahd mahf mcho mbes mbyt mtxt mpos_0 mpos_0 mtok 0 mnum mfau mrdm mrea mlin mlne mthg mord mbor mbsm mans mand manr mali) := hD
        refine lv_aload_n hx hb dX10_nextToken_51 rfl (lv_at hl 0 rfl) ?_
        refine lv_iconst (v := 0) hx hb dX10_nextToken_52 (by decide) ?_
        refine va_put (D := (dC, dI)) (ci := 10) (v := .int 0) (ty := .int) (C := RX10) (T := TX10) (N := 39) hx hb hts inX10 tyX10 tyX10_ok nmX10 hown hK hP hD hS 0 rfl rfl 25 (by decide) lf155 (fun _ h9 => h9) rfl (by decide +kernel) rfl rfl (Nat.le_of_ble_eq_true rfl) dX10_nextToken_53 (fun H locs hP hD hS => ?_)
        have hP : va_P (dC, dI) vwCl (wMod cI cZ cQ b mday mdoo mdA mdB mfar mmar mtel mgai mfal mtop mstr mgho mfai mpto mwal mahd mahf mcho mbes mbyt mtxt mpos_0 mpos_0 mtok 0 0 mfau mrdm mrea mlin mlne mthg mord mbor mbsm mans mand manr mali) H := hP
        have hD : va_D A (wMod cI cZ cQ b mday mdoo mdA mdB mfar mmar mtel mgai mfal mtop mstr mgho mfai mpto mwal mahd mahf mcho mbes mbyt mtxt mpos_0 mpos_0 mtok 0 0 mfau mrdm mrea mlin mlne mthg mord mbor mbsm mans mand manr mali) := hD
        refine lv_aload_n hx hb dX10_nextToken_56 rfl (lv_at hl 0 rfl) ?_
        refine va_get (D := (dC, dI)) (ci := 10) (v := .int mpos_0) (C := RX10) (T := TX10) (N := 39) hx hb hts inX10 hown hK hP 0 rfl rfl 21 (by decide) lf146 (fun _ h9 => h9) rfl dX10_nextToken_57 ?_
        refine lv_aload_n hx hb dX10_nextToken_60 rfl (lv_at hl 0 rfl) ?_
        refine va_get (D := (dC, dI)) (ci := 10) (v := .int mbyt) (C := RX10) (T := TX10) (N := 39) hx hb hts inX10 hown hK hP 0 rfl rfl 19 (by decide) lf141 (fun _ h9 => h9) rfl dX10_nextToken_61 ?_
        refine lv_icmp_ne (tgt := 77) hx hb dX10_nextToken_64 (by decide) (fun c2 => ?_) (fun c2 => ?_)
        · have dc2 : mpos_0.toInt ≠ mbyt.toInt := neC rfl rfl c2
          refine lv_aload_n hx hb dX10_nextToken_77 rfl (lv_at hl 0 rfl) ?_
          refine va_get (D := (dC, dI)) (ci := 10) (v := .ref (b 20)) (C := RX10) (T := TX10) (N := 39) hx hb hts inX10 hown hK hP 0 rfl rfl 20 (by decide) lf62 (fun _ h9 => h9) rfl dX10_nextToken_78 ?_
          refine lv_aload_n hx hb dX10_nextToken_81 rfl (lv_at hl 0 rfl) ?_
          refine va_get (D := (dC, dI)) (ci := 10) (v := .int mpos_0) (C := RX10) (T := TX10) (N := 39) hx hb hts inX10 hown hK hP 0 rfl rfl 21 (by decide) lf146 (fun _ h9 => h9) rfl dX10_nextToken_82 ?_
          have b3 : vp_in mpos_0 160 := inC rfl (by omega) (by omega)
          refine va_iald hx hb hK hP 16 0 rfl rfl b3 dX10_nextToken_85 ?_
          refine lv_bipush (v := 97) hx hb dX10_nextToken_86 (by decide) ?_
          refine lv_bipush (v := 122) hx hb dX10_nextToken_88 (by decide) ?_
          refine rdS (As := [.int (mtxt mpos_0.toNatClampNeg), .int 97, .int 122]) (rest := []) ⟨hx, hb, hml, hown, hts⟩ (k_X10_in l dC dI cI cZ cQ (mtxt mpos_0.toNatClampNeg) (97 : Int32) (122 : Int32)) (va_cwS 3 hts gX10_nextToken_X10_in rfl rfl rfl (by decide +kernel) ⟨Nat.le_of_ble_eq_true rfl, Nat.le_of_ble_eq_true rfl⟩) hP hK hN [] rfl rfl hl.1 rfl (Nat.le_of_ble_eq_true rfl) dX10_nextToken_90 ⟨Nat.le_of_ble_eq_true rfl, Nat.le_of_ble_eq_true rfl⟩ (fun r4 h5 => ?_)
          have h5 : ((((r4 = 1) ∧ ((97) ≤ (mtxt mpos_0.toNatClampNeg).toInt) ∧ ((mtxt mpos_0.toNatClampNeg).toInt ≤ (122))) ∨ ((r4 = 0) ∧ ((mtxt mpos_0.toNatClampNeg).toInt < (97) ∨ (122) < (mtxt mpos_0.toNatClampNeg).toInt)))) := h5
          rcases h5 with (⟨rfl, h5_a0, h5_a1⟩ | ⟨rfl, h5_a0⟩)
          · refine lv_if_eq (tgt := 222) hx hb dX10_nextToken_93 (by decide) (fun c9 => absurd c9 (by decide)) (fun _ => ?_)
            refine lv_aload_n hx hb dX10_nextToken_96 rfl (lv_at hl 0 rfl) ?_
            refine lv_lconst (v := 0) hx hb dX10_nextToken_97 (by decide) ?_
            refine va_put (D := (dC, dI)) (ci := 10) (v := .long 0) (ty := .long) (C := RX10) (T := TX10) (N := 39) hx hb hts inX10 tyX10 tyX10_ok nmX10 hown hK hP hD hS 0 rfl rfl 23 (by decide) lf160 (fun _ h9 => h9) rfl (by decide +kernel) rfl rfl (Nat.le_of_ble_eq_true rfl) dX10_nextToken_98 (fun H locs hP hD hS => ?_)
            have hP : va_P (dC, dI) vwCl (wMod cI cZ cQ b mday mdoo mdA mdB mfar mmar mtel mgai mfal mtop mstr mgho mfai mpto mwal mahd mahf mcho mbes mbyt mtxt mpos_0 mpos_0 0 0 0 mfau mrdm mrea mlin mlne mthg mord mbor mbsm mans mand manr mali) H := hP
            have hD : va_D A (wMod cI cZ cQ b mday mdoo mdA mdB mfar mmar mtel mgai mfal mtop mstr mgho mfai mpto mwal mahd mahf mcho mbes mbyt mtxt mpos_0 mpos_0 0 0 0 mfau mrdm mrea mlin mlne mthg mord mbor mbsm mans mand manr mali) := hD
            have L101 : ∀ (nn : Nat) (mpos_101 : Int32) (mtok_101 : Int64) (H : Heap) (locs : List Loc) (ls : Array Slot), (0 ≤ mpos_101.toInt ∧ mpos_101.toInt ≤ 160) → (mpos_101.toInt ≤ mbyt.toInt) → (mbyt.toInt - mpos_101.toInt).toNat < nn → va_P (dC, dI) vwCl (wMod cI cZ cQ b mday mdoo mdA mdB mfar mmar mtel mgai mfal mtop mstr mgho mfai mpto mwal mahd mahf mcho mbes mbyt mtxt mpos_101 mpos_0 mtok_101 0 0 mfau mrdm mrea mlin mlne mthg mord mbor mbsm mans mand manr mali) H → va_D A (wMod cI cZ cQ b mday mdoo mdA mdB mfar mmar mtel mgai mfal mtop mstr mgho mfai mpto mwal mahd mahf mcho mbes mbyt mtxt mpos_101 mpos_0 mtok_101 0 0 mfau mrdm mrea mlin mlne mthg mord mbor mbsm mans mand manr mali) → va_S A s.heap H locs → lv_has ls 1 [(0, .ref (b 39))] → W p l e (headSpec wsX10_nextToken { frames := 1, cells := 0, slots := 0, locals := 22 }).room s m ([.ref (b 39)] : List Value).toArray below meth c H locs 0 0 (MQ below (va_Qv (fun (u : US) => ((u.1 0 0).toInt ≤ mbyt.toInt) ∧ (0 ≤ (u.1 0 0).toInt ∧ (u.1 0 0).toInt ≤ 160)) (Bw (dC, dI) A (fun u : US => (wMod cI cZ cQ b mday mdoo mdA mdB mfar mmar mtel mgai mfal mtop mstr mgho mfai mpto mwal mahd mahf mcho mbes mbyt mtxt (u.1 0 0) (u.1 1 0) u.2.1 (u.1 3 0) (u.1 4 0) mfau mrdm mrea mlin mlne mthg mord mbor mbsm mans mand manr mali))) A) ([.ref (b 39)] : List Value).toArray s 0 0 A) (F0 m 101 ls []) := by
              intro nn
              induction nn with
              | zero =>
                intro mpos_101 mtok_101 H locs ls r_mpos_101 i101_0 hm
                exact absurd hm (Nat.not_lt_zero _)
              | succ nn ih101 =>
                intro mpos_101 mtok_101 H locs ls r_mpos_101 i101_0 hm hP hD hS hl
                refine lv_aload_n hx hb dX10_nextToken_101 rfl (lv_at hl 0 rfl) ?_
                refine va_get (D := (dC, dI)) (ci := 10) (v := .int mpos_101) (C := RX10) (T := TX10) (N := 39) hx hb hts inX10 hown hK hP 0 rfl rfl 21 (by decide) lf146 (fun _ h9 => h9) rfl dX10_nextToken_102 ?_
                refine lv_aload_n hx hb dX10_nextToken_105 rfl (lv_at hl 0 rfl) ?_
                refine va_get (D := (dC, dI)) (ci := 10) (v := .int mbyt) (C := RX10) (T := TX10) (N := 39) hx hb hts inX10 hown hK hP 0 rfl rfl 19 (by decide) lf141 (fun _ h9 => h9) rfl dX10_nextToken_106 ?_
                refine lv_icmp_ge (tgt := 191) hx hb dX10_nextToken_109 (by decide) (fun c6 => ?_) (fun c6 => ?_)
                · have dc6 : mbyt.toInt ≤ mpos_101.toInt := leC rfl rfl c6
                  refine lv_aload_n hx hb dX10_nextToken_191 rfl (lv_at hl 0 rfl) ?_
                  refine lv_aload_n hx hb dX10_nextToken_192 rfl (lv_at hl 0 rfl) ?_
                  refine va_get (D := (dC, dI)) (ci := 10) (v := .int mpos_101) (C := RX10) (T := TX10) (N := 39) hx hb hts inX10 hown hK hP 0 rfl rfl 21 (by decide) lf146 (fun _ h9 => h9) rfl dX10_nextToken_193 ?_
                  refine lv_aload_n hx hb dX10_nextToken_196 rfl (lv_at hl 0 rfl) ?_
                  refine va_get (D := (dC, dI)) (ci := 10) (v := .int mpos_0) (C := RX10) (T := TX10) (N := 39) hx hb hts inX10 hown hK hP 0 rfl rfl 22 (by decide) lf149 (fun _ h9 => h9) rfl dX10_nextToken_197 ?_
                  refine lv_isub hx hb dX10_nextToken_200 ?_
                  have f7 : (mpos_101 - mpos_0).toInt = (mpos_101.toInt) - (mpos_0.toInt) := subC rfl rfl (by omega) (by omega)
                  refine lv_bipush (v := 9) hx hb dX10_nextToken_201 (by decide) ?_
                  refine lv_icmp_le (tgt := 212) hx hb dX10_nextToken_203 (by decide) (fun c8 => ?_) (fun c8 => ?_)
                  · have dc8 : (mpos_101.toInt) - (mpos_0.toInt) ≤ 9 := leC f7 (show (9 : Int32).toInt = 9 from rfl) c8
                    refine lv_aload_n hx hb dX10_nextToken_212 rfl (lv_at hl 0 rfl) ?_
                    refine va_get (D := (dC, dI)) (ci := 10) (v := .long mtok_101) (C := RX10) (T := TX10) (N := 39) hx hb hts inX10 hown hK hP 0 rfl rfl 23 (by decide) lf160 (fun _ h9 => h9) rfl dX10_nextToken_213 ?_
                    refine va_put (D := (dC, dI)) (ci := 10) (v := .long mtok_101) (ty := .long) (C := RX10) (T := TX10) (N := 39) hx hb hts inX10 tyX10 tyX10_ok nmX10 hown hK hP hD hS 0 rfl rfl 23 (by decide) lf160 (fun _ h9 => h9) rfl (by decide +kernel) rfl rfl (Nat.le_of_ble_eq_true rfl) dX10_nextToken_216 (fun H locs hP hD hS => ?_)
                    have hP : va_P (dC, dI) vwCl (wMod cI cZ cQ b mday mdoo mdA mdB mfar mmar mtel mgai mfal mtop mstr mgho mfai mpto mwal mahd mahf mcho mbes mbyt mtxt mpos_101 mpos_0 mtok_101 0 0 mfau mrdm mrea mlin mlne mthg mord mbor mbsm mans mand manr mali) H := hP
                    have hD : va_D A (wMod cI cZ cQ b mday mdoo mdA mdB mfar mmar mtel mgai mfal mtop mstr mgho mfai mpto mwal mahd mahf mcho mbes mbyt mtxt mpos_101 mpos_0 mtok_101 0 0 mfau mrdm mrea mlin mlne mthg mord mbor mbsm mans mand manr mali) := hD
                    refine lv_goto (tgt := 394) hx hb dX10_nextToken_219 (by decide) ?_
                    exact W.vret hx hb hr (fun tq ht hW => ⟨⟨(uS [(fun _ => mpos_101), (fun _ => mpos_0), (fun _ => 0), (fun _ => 0), (fun _ => 0)] mtok_101 (fun _ => 0)), rfl, ⟨(show mpos_101.toInt ≤ mbyt.toInt from by omega), r_mpos_101⟩, by rw [ht]; exact hP, hD⟩, hS.F ht⟩) hS.2.2 dX10_nextToken_394
                  · have dc8 : 9 < (mpos_101.toInt) - (mpos_0.toInt) := nleC f7 (show (9 : Int32).toInt = 9 from rfl) c8
                    refine lv_ldc2 (v := (-4)) hx hb hown (hts (.constantLong RX10 168 (-4)) (by decide +kernel)) dX10_nextToken_206 ?_
                    refine lv_goto (tgt := 216) hx hb dX10_nextToken_209 (by decide) ?_
                    refine va_put (D := (dC, dI)) (ci := 10) (v := .long (-4)) (ty := .long) (C := RX10) (T := TX10) (N := 39) hx hb hts inX10 tyX10 tyX10_ok nmX10 hown hK hP hD hS 0 rfl rfl 23 (by decide) lf160 (fun _ h9 => h9) rfl (by decide +kernel) rfl rfl (Nat.le_of_ble_eq_true rfl) dX10_nextToken_216 (fun H locs hP hD hS => ?_)
                    have hP : va_P (dC, dI) vwCl (wMod cI cZ cQ b mday mdoo mdA mdB mfar mmar mtel mgai mfal mtop mstr mgho mfai mpto mwal mahd mahf mcho mbes mbyt mtxt mpos_101 mpos_0 (-4) 0 0 mfau mrdm mrea mlin mlne mthg mord mbor mbsm mans mand manr mali) H := hP
                    have hD : va_D A (wMod cI cZ cQ b mday mdoo mdA mdB mfar mmar mtel mgai mfal mtop mstr mgho mfai mpto mwal mahd mahf mcho mbes mbyt mtxt mpos_101 mpos_0 (-4) 0 0 mfau mrdm mrea mlin mlne mthg mord mbor mbsm mans mand manr mali) := hD
                    refine lv_goto (tgt := 394) hx hb dX10_nextToken_219 (by decide) ?_
                    exact W.vret hx hb hr (fun tq ht hW => ⟨⟨(uS [(fun _ => mpos_101), (fun _ => mpos_0), (fun _ => 0), (fun _ => 0), (fun _ => 0)] (-4) (fun _ => 0)), rfl, ⟨(show mpos_101.toInt ≤ mbyt.toInt from by omega), r_mpos_101⟩, by rw [ht]; exact hP, hD⟩, hS.F ht⟩) hS.2.2 dX10_nextToken_394
                · have dc6 : mpos_101.toInt < mbyt.toInt := nleC rfl rfl c6
                  refine lv_aload_n hx hb dX10_nextToken_112 rfl (lv_at hl 0 rfl) ?_
                  refine va_get (D := (dC, dI)) (ci := 10) (v := .ref (b 20)) (C := RX10) (T := TX10) (N := 39) hx hb hts inX10 hown hK hP 0 rfl rfl 20 (by decide) lf62 (fun _ h9 => h9) rfl dX10_nextToken_113 ?_
                  refine lv_aload_n hx hb dX10_nextToken_116 rfl (lv_at hl 0 rfl) ?_
                  refine va_get (D := (dC, dI)) (ci := 10) (v := .int mpos_101) (C := RX10) (T := TX10) (N := 39) hx hb hts inX10 hown hK hP 0 rfl rfl 21 (by decide) lf146 (fun _ h9 => h9) rfl dX10_nextToken_117 ?_
                  have b9 : vp_in mpos_101 160 := inC rfl (by omega) (by omega)
                  refine va_iald hx hb hK hP 16 0 rfl rfl b9 dX10_nextToken_120 ?_
                  refine lv_bipush (v := 97) hx hb dX10_nextToken_121 (by decide) ?_
                  refine lv_bipush (v := 122) hx hb dX10_nextToken_123 (by decide) ?_
                  refine rdS (As := [.int (mtxt mpos_101.toNatClampNeg), .int 97, .int 122]) (rest := []) ⟨hx, hb, hml, hown, hts⟩ (k_X10_in l dC dI cI cZ cQ (mtxt mpos_101.toNatClampNeg) (97 : Int32) (122 : Int32)) (va_cwS 3 hts gX10_nextToken_X10_in rfl rfl rfl (by decide +kernel) ⟨Nat.le_of_ble_eq_true rfl, Nat.le_of_ble_eq_true rfl⟩) hP hK hN [] rfl rfl hl.1 rfl (Nat.le_of_ble_eq_true rfl) dX10_nextToken_125 ⟨Nat.le_of_ble_eq_true rfl, Nat.le_of_ble_eq_true rfl⟩ (fun r10 h11 => ?_)
                  have h11 : ((((r10 = 1) ∧ ((97) ≤ (mtxt mpos_101.toNatClampNeg).toInt) ∧ ((mtxt mpos_101.toNatClampNeg).toInt ≤ (122))) ∨ ((r10 = 0) ∧ ((mtxt mpos_101.toNatClampNeg).toInt < (97) ∨ (122) < (mtxt mpos_101.toNatClampNeg).toInt)))) := h11
                  rcases h11 with (⟨rfl, h11_a0, h11_a1⟩ | ⟨rfl, h11_a0⟩)
                  · refine lv_if_eq (tgt := 191) hx hb dX10_nextToken_128 (by decide) (fun c9 => absurd c9 (by decide)) (fun _ => ?_)
                    refine lv_aload_n hx hb dX10_nextToken_131 rfl (lv_at hl 0 rfl) ?_
                    refine lv_aload_n hx hb dX10_nextToken_132 rfl (lv_at hl 0 rfl) ?_
                    refine va_get (D := (dC, dI)) (ci := 10) (v := .int mpos_101) (C := RX10) (T := TX10) (N := 39) hx hb hts inX10 hown hK hP 0 rfl rfl 21 (by decide) lf146 (fun _ h9 => h9) rfl dX10_nextToken_133 ?_
                    refine lv_aload_n hx hb dX10_nextToken_136 rfl (lv_at hl 0 rfl) ?_
                    refine va_get (D := (dC, dI)) (ci := 10) (v := .int mpos_0) (C := RX10) (T := TX10) (N := 39) hx hb hts inX10 hown hK hP 0 rfl rfl 22 (by decide) lf149 (fun _ h9 => h9) rfl dX10_nextToken_137 ?_
                    refine lv_isub hx hb dX10_nextToken_140 ?_
                    have f12 : (mpos_101 - mpos_0).toInt = (mpos_101.toInt) - (mpos_0.toInt) := subC rfl rfl (by omega) (by omega)
                    refine lv_bipush (v := 9) hx hb dX10_nextToken_141 (by decide) ?_
                    refine lv_icmp_ge (tgt := 172) hx hb dX10_nextToken_143 (by decide) (fun c13 => ?_) (fun c13 => ?_)
                    · have dc13 : 9 ≤ (mpos_101.toInt) - (mpos_0.toInt) := leC (show (9 : Int32).toInt = 9 from rfl) f12 c13
                      refine lv_ldc2 (v := (-4)) hx hb hown (hts (.constantLong RX10 168 (-4)) (by decide +kernel)) dX10_nextToken_172 ?_
                      refine va_put (D := (dC, dI)) (ci := 10) (v := .long (-4)) (ty := .long) (C := RX10) (T := TX10) (N := 39) hx hb hts inX10 tyX10 tyX10_ok nmX10 hown hK hP hD hS 0 rfl rfl 23 (by decide) lf160 (fun _ h9 => h9) rfl (by decide +kernel) rfl rfl (Nat.le_of_ble_eq_true rfl) dX10_nextToken_175 (fun H locs hP hD hS => ?_)
                      have hP : va_P (dC, dI) vwCl (wMod cI cZ cQ b mday mdoo mdA mdB mfar mmar mtel mgai mfal mtop mstr mgho mfai mpto mwal mahd mahf mcho mbes mbyt mtxt mpos_101 mpos_0 (-4) 0 0 mfau mrdm mrea mlin mlne mthg mord mbor mbsm mans mand manr mali) H := hP
                      have hD : va_D A (wMod cI cZ cQ b mday mdoo mdA mdB mfar mmar mtel mgai mfal mtop mstr mgho mfai mpto mwal mahd mahf mcho mbes mbyt mtxt mpos_101 mpos_0 (-4) 0 0 mfau mrdm mrea mlin mlne mthg mord mbor mbsm mans mand manr mali) := hD
                      refine lv_aload_n hx hb dX10_nextToken_178 rfl (lv_at hl 0 rfl) ?_
                      refine lv_dup hx hb dX10_nextToken_179 rfl ?_
                      refine va_get (D := (dC, dI)) (ci := 10) (v := .int mpos_101) (C := RX10) (T := TX10) (N := 39) hx hb hts inX10 hown hK hP 0 rfl rfl 21 (by decide) lf146 (fun _ h9 => h9) rfl dX10_nextToken_180 ?_
                      refine lv_iconst (v := 1) hx hb dX10_nextToken_183 (by decide) ?_
                      refine lv_iadd hx hb dX10_nextToken_184 ?_
                      have f14 : (mpos_101 + 1).toInt = (mpos_101.toInt) + (1) := addC rfl (show (1 : Int32).toInt = 1 from rfl) (by omega) (by omega)
                      refine lv_topi (fun x15 ex15 => ?_)
                      have ix15 : x15.toInt = (mpos_101.toInt) + (1) := by rw [ex15]; exact f14
                      refine va_put (D := (dC, dI)) (ci := 10) (v := .int x15) (ty := .int) (C := RX10) (T := TX10) (N := 39) hx hb hts inX10 tyX10 tyX10_ok nmX10 hown hK hP hD hS 0 rfl rfl 21 (by decide) lf146 (fun _ h9 => h9) rfl (by decide +kernel) rfl rfl (Nat.le_of_ble_eq_true rfl) dX10_nextToken_185 (fun H locs hP hD hS => ?_)
                      have g16 : 0 ≤ x15.toInt ∧ x15.toInt ≤ 160 := by rw [show x15.toInt = x15.toInt from rfl]; exact ⟨by omega, by omega⟩
                      have hP : va_P (dC, dI) vwCl (wMod cI cZ cQ b mday mdoo mdA mdB mfar mmar mtel mgai mfal mtop mstr mgho mfai mpto mwal mahd mahf mcho mbes mbyt mtxt x15 mpos_0 (-4) 0 0 mfau mrdm mrea mlin mlne mthg mord mbor mbsm mans mand manr mali) H := hP
                      have hD : va_D A (wMod cI cZ cQ b mday mdoo mdA mdB mfar mmar mtel mgai mfal mtop mstr mgho mfai mpto mwal mahd mahf mcho mbes mbyt mtxt x15 mpos_0 (-4) 0 0 mfau mrdm mrea mlin mlne mthg mord mbor mbsm mans mand manr mali) := hD
                      refine lv_goto (tgt := 101) hx hb dX10_nextToken_188 (by decide) ?_
                      exact ih101 x15 (-4) _ _ _ g16 (by omega) (by omega) hP hD hS (lv_sub hl [0] rfl)
                    · have dc13 : (mpos_101.toInt) - (mpos_0.toInt) < 9 := nleC (show (9 : Int32).toInt = 9 from rfl) f12 c13
                      refine lv_ldc2 (v := 27) hx hb hown (hts (.constantLong RX10 164 (27)) (by decide +kernel)) dX10_nextToken_146 ?_
                      refine lv_aload_n hx hb dX10_nextToken_149 rfl (lv_at hl 0 rfl) ?_
                      refine va_get (D := (dC, dI)) (ci := 10) (v := .long mtok_101) (C := RX10) (T := TX10) (N := 39) hx hb hts inX10 hown hK hP 0 rfl rfl 23 (by decide) lf160 (fun _ h9 => h9) rfl dX10_nextToken_150 ?_
                      refine lv_lmul hx hb dX10_nextToken_153 ?_
                      refine lv_aload_n hx hb dX10_nextToken_154 rfl (lv_at hl 0 rfl) ?_
                      refine va_get (D := (dC, dI)) (ci := 10) (v := .ref (b 20)) (C := RX10) (T := TX10) (N := 39) hx hb hts inX10 hown hK hP 0 rfl rfl 20 (by decide) lf62 (fun _ h9 => h9) rfl dX10_nextToken_155 ?_
                      refine lv_aload_n hx hb dX10_nextToken_158 rfl (lv_at hl 0 rfl) ?_
                      refine va_get (D := (dC, dI)) (ci := 10) (v := .int mpos_101) (C := RX10) (T := TX10) (N := 39) hx hb hts inX10 hown hK hP 0 rfl rfl 21 (by decide) lf146 (fun _ h9 => h9) rfl dX10_nextToken_159 ?_
                      have b17 : vp_in mpos_101 160 := inC rfl (by omega) (by omega)
                      refine va_iald hx hb hK hP 16 0 rfl rfl b17 dX10_nextToken_162 ?_
                      refine lv_i2l hx hb dX10_nextToken_163 rfl ?_
                      refine lv_ladd hx hb dX10_nextToken_164 ?_
                      refine lv_ldc2 (v := 96) hx hb hown (hts (.constantLong RX10 166 (96)) (by decide +kernel)) dX10_nextToken_165 ?_
                      refine lv_lsub hx hb dX10_nextToken_168 ?_
                      refine lv_goto (tgt := 175) hx hb dX10_nextToken_169 (by decide) ?_
                      refine va_put (D := (dC, dI)) (ci := 10) (v := .long (((27 * mtok_101) + ((mtxt mpos_101.toNatClampNeg).toInt64)) - 96)) (ty := .long) (C := RX10) (T := TX10) (N := 39) hx hb hts inX10 tyX10 tyX10_ok nmX10 hown hK hP hD hS 0 rfl rfl 23 (by decide) lf160 (fun _ h9 => h9) rfl (by decide +kernel) rfl rfl (Nat.le_of_ble_eq_true rfl) dX10_nextToken_175 (fun H locs hP hD hS => ?_)
                      have hP : va_P (dC, dI) vwCl (wMod cI cZ cQ b mday mdoo mdA mdB mfar mmar mtel mgai mfal mtop mstr mgho mfai mpto mwal mahd mahf mcho mbes mbyt mtxt mpos_101 mpos_0 (((27 * mtok_101) + ((mtxt mpos_101.toNatClampNeg).toInt64)) - 96) 0 0 mfau mrdm mrea mlin mlne mthg mord mbor mbsm mans mand manr mali) H := hP
                      have hD : va_D A (wMod cI cZ cQ b mday mdoo mdA mdB mfar mmar mtel mgai mfal mtop mstr mgho mfai mpto mwal mahd mahf mcho mbes mbyt mtxt mpos_101 mpos_0 (((27 * mtok_101) + ((mtxt mpos_101.toNatClampNeg).toInt64)) - 96) 0 0 mfau mrdm mrea mlin mlne mthg mord mbor mbsm mans mand manr mali) := hD
                      refine lv_aload_n hx hb dX10_nextToken_178 rfl (lv_at hl 0 rfl) ?_
                      refine lv_dup hx hb dX10_nextToken_179 rfl ?_
                      refine va_get (D := (dC, dI)) (ci := 10) (v := .int mpos_101) (C := RX10) (T := TX10) (N := 39) hx hb hts inX10 hown hK hP 0 rfl rfl 21 (by decide) lf146 (fun _ h9 => h9) rfl dX10_nextToken_180 ?_
                      refine lv_iconst (v := 1) hx hb dX10_nextToken_183 (by decide) ?_
                      refine lv_iadd hx hb dX10_nextToken_184 ?_
                      have f18 : (mpos_101 + 1).toInt = (mpos_101.toInt) + (1) := addC rfl (show (1 : Int32).toInt = 1 from rfl) (by omega) (by omega)
                      refine lv_topi (fun x19 ex19 => ?_)
                      have ix19 : x19.toInt = (mpos_101.toInt) + (1) := by rw [ex19]; exact f18
                      refine va_put (D := (dC, dI)) (ci := 10) (v := .int x19) (ty := .int) (C := RX10) (T := TX10) (N := 39) hx hb hts inX10 tyX10 tyX10_ok nmX10 hown hK hP hD hS 0 rfl rfl 21 (by decide) lf146 (fun _ h9 => h9) rfl (by decide +kernel) rfl rfl (Nat.le_of_ble_eq_true rfl) dX10_nextToken_185 (fun H locs hP hD hS => ?_)
                      have g20 : 0 ≤ x19.toInt ∧ x19.toInt ≤ 160 := by rw [show x19.toInt = x19.toInt from rfl]; exact ⟨by omega, by omega⟩
                      have hP : va_P (dC, dI) vwCl (wMod cI cZ cQ b mday mdoo mdA mdB mfar mmar mtel mgai mfal mtop mstr mgho mfai mpto mwal mahd mahf mcho mbes mbyt mtxt x19 mpos_0 (((27 * mtok_101) + ((mtxt mpos_101.toNatClampNeg).toInt64)) - 96) 0 0 mfau mrdm mrea mlin mlne mthg mord mbor mbsm mans mand manr mali) H := hP
                      have hD : va_D A (wMod cI cZ cQ b mday mdoo mdA mdB mfar mmar mtel mgai mfal mtop mstr mgho mfai mpto mwal mahd mahf mcho mbes mbyt mtxt x19 mpos_0 (((27 * mtok_101) + ((mtxt mpos_101.toNatClampNeg).toInt64)) - 96) 0 0 mfau mrdm mrea mlin mlne mthg mord mbor mbsm mans mand manr mali) := hD
                      refine lv_goto (tgt := 101) hx hb dX10_nextToken_188 (by decide) ?_
                      exact ih101 x19 (((27 * mtok_101) + ((mtxt mpos_101.toNatClampNeg).toInt64)) - 96) _ _ _ g20 (by omega) (by omega) hP hD hS (lv_sub hl [0] rfl)
                  · refine lv_if_eq (tgt := 191) hx hb dX10_nextToken_128 (by decide) (fun _ => ?_) (fun c9 => absurd (by decide) c9)
                    refine lv_aload_n hx hb dX10_nextToken_191 rfl (lv_at hl 0 rfl) ?_
                    refine lv_aload_n hx hb dX10_nextToken_192 rfl (lv_at hl 0 rfl) ?_
                    refine va_get (D := (dC, dI)) (ci := 10) (v := .int mpos_101) (C := RX10) (T := TX10) (N := 39) hx hb hts inX10 hown hK hP 0 rfl rfl 21 (by decide) lf146 (fun _ h9 => h9) rfl dX10_nextToken_193 ?_
                    refine lv_aload_n hx hb dX10_nextToken_196 rfl (lv_at hl 0 rfl) ?_
                    refine va_get (D := (dC, dI)) (ci := 10) (v := .int mpos_0) (C := RX10) (T := TX10) (N := 39) hx hb hts inX10 hown hK hP 0 rfl rfl 22 (by decide) lf149 (fun _ h9 => h9) rfl dX10_nextToken_197 ?_
                    refine lv_isub hx hb dX10_nextToken_200 ?_
                    have f21 : (mpos_101 - mpos_0).toInt = (mpos_101.toInt) - (mpos_0.toInt) := subC rfl rfl (by omega) (by omega)
                    refine lv_bipush (v := 9) hx hb dX10_nextToken_201 (by decide) ?_
                    refine lv_icmp_le (tgt := 212) hx hb dX10_nextToken_203 (by decide) (fun c22 => ?_) (fun c22 => ?_)
                    · have dc22 : (mpos_101.toInt) - (mpos_0.toInt) ≤ 9 := leC f21 (show (9 : Int32).toInt = 9 from rfl) c22
                      refine lv_aload_n hx hb dX10_nextToken_212 rfl (lv_at hl 0 rfl) ?_
                      refine va_get (D := (dC, dI)) (ci := 10) (v := .long mtok_101) (C := RX10) (T := TX10) (N := 39) hx hb hts inX10 hown hK hP 0 rfl rfl 23 (by decide) lf160 (fun _ h9 => h9) rfl dX10_nextToken_213 ?_
                      refine va_put (D := (dC, dI)) (ci := 10) (v := .long mtok_101) (ty := .long) (C := RX10) (T := TX10) (N := 39) hx hb hts inX10 tyX10 tyX10_ok nmX10 hown hK hP hD hS 0 rfl rfl 23 (by decide) lf160 (fun _ h9 => h9) rfl (by decide +kernel) rfl rfl (Nat.le_of_ble_eq_true rfl) dX10_nextToken_216 (fun H locs hP hD hS => ?_)
                      have hP : va_P (dC, dI) vwCl (wMod cI cZ cQ b mday mdoo mdA mdB mfar mmar mtel mgai mfal mtop mstr mgho mfai mpto mwal mahd mahf mcho mbes mbyt mtxt mpos_101 mpos_0 mtok_101 0 0 mfau mrdm mrea mlin mlne mthg mord mbor mbsm mans mand manr mali) H := hP
                      have hD : va_D A (wMod cI cZ cQ b mday mdoo mdA mdB mfar mmar mtel mgai mfal mtop mstr mgho mfai mpto mwal mahd mahf mcho mbes mbyt mtxt mpos_101 mpos_0 mtok_101 0 0 mfau mrdm mrea mlin mlne mthg mord mbor mbsm mans mand manr mali) := hD
                      refine lv_goto (tgt := 394) hx hb dX10_nextToken_219 (by decide) ?_
                      exact W.vret hx hb hr (fun tq ht hW => ⟨⟨(uS [(fun _ => mpos_101), (fun _ => mpos_0), (fun _ => 0), (fun _ => 0), (fun _ => 0)] mtok_101 (fun _ => 0)), rfl, ⟨(show mpos_101.toInt ≤ mbyt.toInt from by omega), r_mpos_101⟩, by rw [ht]; exact hP, hD⟩, hS.F ht⟩) hS.2.2 dX10_nextToken_394
                    · have dc22 : 9 < (mpos_101.toInt) - (mpos_0.toInt) := nleC f21 (show (9 : Int32).toInt = 9 from rfl) c22
                      refine lv_ldc2 (v := (-4)) hx hb hown (hts (.constantLong RX10 168 (-4)) (by decide +kernel)) dX10_nextToken_206 ?_
                      refine lv_goto (tgt := 216) hx hb dX10_nextToken_209 (by decide) ?_
                      refine va_put (D := (dC, dI)) (ci := 10) (v := .long (-4)) (ty := .long) (C := RX10) (T := TX10) (N := 39) hx hb hts inX10 tyX10 tyX10_ok nmX10 hown hK hP hD hS 0 rfl rfl 23 (by decide) lf160 (fun _ h9 => h9) rfl (by decide +kernel) rfl rfl (Nat.le_of_ble_eq_true rfl) dX10_nextToken_216 (fun H locs hP hD hS => ?_)
                      have hP : va_P (dC, dI) vwCl (wMod cI cZ cQ b mday mdoo mdA mdB mfar mmar mtel mgai mfal mtop mstr mgho mfai mpto mwal mahd mahf mcho mbes mbyt mtxt mpos_101 mpos_0 (-4) 0 0 mfau mrdm mrea mlin mlne mthg mord mbor mbsm mans mand manr mali) H := hP
                      have hD : va_D A (wMod cI cZ cQ b mday mdoo mdA mdB mfar mmar mtel mgai mfal mtop mstr mgho mfai mpto mwal mahd mahf mcho mbes mbyt mtxt mpos_101 mpos_0 (-4) 0 0 mfau mrdm mrea mlin mlne mthg mord mbor mbsm mans mand manr mali) := hD
                      refine lv_goto (tgt := 394) hx hb dX10_nextToken_219 (by decide) ?_
                      exact W.vret hx hb hr (fun tq ht hW => ⟨⟨(uS [(fun _ => mpos_101), (fun _ => mpos_0), (fun _ => 0), (fun _ => 0), (fun _ => 0)] (-4) (fun _ => 0)), rfl, ⟨(show mpos_101.toInt ≤ mbyt.toInt from by omega), r_mpos_101⟩, by rw [ht]; exact hP, hD⟩, hS.F ht⟩) hS.2.2 dX10_nextToken_394
            exact L101 _ mpos_0 0 _ _ _ r_mpos_0 (by omega) (Nat.lt_succ_self _) hP hD hS (lv_sub hl [0] rfl)
          · refine lv_if_eq (tgt := 222) hx hb dX10_nextToken_93 (by decide) (fun _ => ?_) (fun c9 => absurd (by decide) c9)
            refine lv_aload_n hx hb dX10_nextToken_222 rfl (lv_at hl 0 rfl) ?_
            refine va_get (D := (dC, dI)) (ci := 10) (v := .ref (b 20)) (C := RX10) (T := TX10) (N := 39) hx hb hts inX10 hown hK hP 0 rfl rfl 20 (by decide) lf62 (fun _ h9 => h9) rfl dX10_nextToken_223 ?_
            refine lv_aload_n hx hb dX10_nextToken_226 rfl (lv_at hl 0 rfl) ?_
            refine va_get (D := (dC, dI)) (ci := 10) (v := .int mpos_0) (C := RX10) (T := TX10) (N := 39) hx hb hts inX10 hown hK hP 0 rfl rfl 21 (by decide) lf146 (fun _ h9 => h9) rfl dX10_nextToken_227 ?_
            have b23 : vp_in mpos_0 160 := inC rfl (by omega) (by omega)
            refine va_iald hx hb hK hP 16 0 rfl rfl b23 dX10_nextToken_230 ?_
            refine lv_bipush (v := 48) hx hb dX10_nextToken_231 (by decide) ?_
            refine lv_bipush (v := 57) hx hb dX10_nextToken_233 (by decide) ?_
            refine rdS (As := [.int (mtxt mpos_0.toNatClampNeg), .int 48, .int 57]) (rest := []) ⟨hx, hb, hml, hown, hts⟩ (k_X10_in l dC dI cI cZ cQ (mtxt mpos_0.toNatClampNeg) (48 : Int32) (57 : Int32)) (va_cwS 3 hts gX10_nextToken_X10_in rfl rfl rfl (by decide +kernel) ⟨Nat.le_of_ble_eq_true rfl, Nat.le_of_ble_eq_true rfl⟩) hP hK hN [] rfl rfl hl.1 rfl (Nat.le_of_ble_eq_true rfl) dX10_nextToken_235 ⟨Nat.le_of_ble_eq_true rfl, Nat.le_of_ble_eq_true rfl⟩ (fun r24 h25 => ?_)
            have h25 : ((((r24 = 1) ∧ ((48) ≤ (mtxt mpos_0.toNatClampNeg).toInt) ∧ ((mtxt mpos_0.toNatClampNeg).toInt ≤ (57))) ∨ ((r24 = 0) ∧ ((mtxt mpos_0.toNatClampNeg).toInt < (48) ∨ (57) < (mtxt mpos_0.toNatClampNeg).toInt)))) := h25
            rcases h25 with (⟨rfl, h25_a0, h25_a1⟩ | ⟨rfl, h25_a0⟩)
            · refine lv_if_eq (tgt := 357) hx hb dX10_nextToken_238 (by decide) (fun c9 => absurd c9 (by decide)) (fun _ => ?_)
              have L241 : ∀ (nn : Nat) (mpos_241 : Int32) (mdig_241 : Int32) (mnum_241 : Int32) (H : Heap) (locs : List Loc) (ls : Array Slot), (0 ≤ mpos_241.toInt ∧ mpos_241.toInt ≤ 160) → (mpos_241.toInt ≤ mbyt.toInt) → (mbyt.toInt - mpos_241.toInt).toNat < nn → va_P (dC, dI) vwCl (wMod cI cZ cQ b mday mdoo mdA mdB mfar mmar mtel mgai mfal mtop mstr mgho mfai mpto mwal mahd mahf mcho mbes mbyt mtxt mpos_241 mpos_0 mtok mdig_241 mnum_241 mfau mrdm mrea mlin mlne mthg mord mbor mbsm mans mand manr mali) H → va_D A (wMod cI cZ cQ b mday mdoo mdA mdB mfar mmar mtel mgai mfal mtop mstr mgho mfai mpto mwal mahd mahf mcho mbes mbyt mtxt mpos_241 mpos_0 mtok mdig_241 mnum_241 mfau mrdm mrea mlin mlne mthg mord mbor mbsm mans mand manr mali) → va_S A s.heap H locs → lv_has ls 1 [(0, .ref (b 39))] → W p l e (headSpec wsX10_nextToken { frames := 1, cells := 0, slots := 0, locals := 22 }).room s m ([.ref (b 39)] : List Value).toArray below meth c H locs 0 0 (MQ below (va_Qv (fun (u : US) => ((u.1 0 0).toInt ≤ mbyt.toInt) ∧ (0 ≤ (u.1 0 0).toInt ∧ (u.1 0 0).toInt ≤ 160)) (Bw (dC, dI) A (fun u : US => (wMod cI cZ cQ b mday mdoo mdA mdB mfar mmar mtel mgai mfal mtop mstr mgho mfai mpto mwal mahd mahf mcho mbes mbyt mtxt (u.1 0 0) (u.1 1 0) u.2.1 (u.1 3 0) (u.1 4 0) mfau mrdm mrea mlin mlne mthg mord mbor mbsm mans mand manr mali))) A) ([.ref (b 39)] : List Value).toArray s 0 0 A) (F0 m 241 ls []) := by
                intro nn
                induction nn with
                | zero =>
                  intro mpos_241 mdig_241 mnum_241 H locs ls r_mpos_241 i241_0 hm
                  exact absurd hm (Nat.not_lt_zero _)
                | succ nn ih241 =>
                  intro mpos_241 mdig_241 mnum_241 H locs ls r_mpos_241 i241_0 hm hP hD hS hl
                  refine lv_aload_n hx hb dX10_nextToken_241 rfl (lv_at hl 0 rfl) ?_
                  refine va_get (D := (dC, dI)) (ci := 10) (v := .int mpos_241) (C := RX10) (T := TX10) (N := 39) hx hb hts inX10 hown hK hP 0 rfl rfl 21 (by decide) lf146 (fun _ h9 => h9) rfl dX10_nextToken_242 ?_
                  refine lv_aload_n hx hb dX10_nextToken_245 rfl (lv_at hl 0 rfl) ?_
                  refine va_get (D := (dC, dI)) (ci := 10) (v := .int mbyt) (C := RX10) (T := TX10) (N := 39) hx hb hts inX10 hown hK hP 0 rfl rfl 19 (by decide) lf141 (fun _ h9 => h9) rfl dX10_nextToken_246 ?_
                  refine lv_icmp_ge (tgt := 333) hx hb dX10_nextToken_249 (by decide) (fun c26 => ?_) (fun c26 => ?_)
                  · have dc26 : mbyt.toInt ≤ mpos_241.toInt := leC rfl rfl c26
                    refine lv_aload_n hx hb dX10_nextToken_333 rfl (lv_at hl 0 rfl) ?_
                    refine lv_aload_n hx hb dX10_nextToken_334 rfl (lv_at hl 0 rfl) ?_
                    refine va_get (D := (dC, dI)) (ci := 10) (v := .int mdig_241) (C := RX10) (T := TX10) (N := 39) hx hb hts inX10 hown hK hP 0 rfl rfl 24 (by decide) lf152 (fun _ h9 => h9) rfl dX10_nextToken_335 ?_
                    refine lv_iconst (v := 2) hx hb dX10_nextToken_338 (by decide) ?_
                    refine lv_icmp_le (tgt := 348) hx hb dX10_nextToken_339 (by decide) (fun c27 => ?_) (fun c27 => ?_)
                    · have dc27 : mdig_241.toInt ≤ 2 := leC rfl (show (2 : Int32).toInt = 2 from rfl) c27
                      refine lv_ldc2 (v := (-1)) hx hb hown (hts (.constantLong RX10 170 (-1)) (by decide +kernel)) dX10_nextToken_348 ?_
                      refine va_put (D := (dC, dI)) (ci := 10) (v := .long (-1)) (ty := .long) (C := RX10) (T := TX10) (N := 39) hx hb hts inX10 tyX10 tyX10_ok nmX10 hown hK hP hD hS 0 rfl rfl 23 (by decide) lf160 (fun _ h9 => h9) rfl (by decide +kernel) rfl rfl (Nat.le_of_ble_eq_true rfl) dX10_nextToken_351 (fun H locs hP hD hS => ?_)
                      have hP : va_P (dC, dI) vwCl (wMod cI cZ cQ b mday mdoo mdA mdB mfar mmar mtel mgai mfal mtop mstr mgho mfai mpto mwal mahd mahf mcho mbes mbyt mtxt mpos_241 mpos_0 (-1) mdig_241 mnum_241 mfau mrdm mrea mlin mlne mthg mord mbor mbsm mans mand manr mali) H := hP
                      have hD : va_D A (wMod cI cZ cQ b mday mdoo mdA mdB mfar mmar mtel mgai mfal mtop mstr mgho mfai mpto mwal mahd mahf mcho mbes mbyt mtxt mpos_241 mpos_0 (-1) mdig_241 mnum_241 mfau mrdm mrea mlin mlne mthg mord mbor mbsm mans mand manr mali) := hD
                      refine lv_goto (tgt := 394) hx hb dX10_nextToken_354 (by decide) ?_
                      exact W.vret hx hb hr (fun tq ht hW => ⟨⟨(uS [(fun _ => mpos_241), (fun _ => mpos_0), (fun _ => 0), (fun _ => mdig_241), (fun _ => mnum_241)] (-1) (fun _ => 0)), rfl, ⟨(show mpos_241.toInt ≤ mbyt.toInt from by omega), r_mpos_241⟩, by rw [ht]; exact hP, hD⟩, hS.F ht⟩) hS.2.2 dX10_nextToken_394
                    · have dc27 : 2 < mdig_241.toInt := nleC rfl (show (2 : Int32).toInt = 2 from rfl) c27
                      refine lv_ldc2 (v := (-4)) hx hb hown (hts (.constantLong RX10 168 (-4)) (by decide +kernel)) dX10_nextToken_342 ?_
                      refine lv_goto (tgt := 351) hx hb dX10_nextToken_345 (by decide) ?_
                      refine va_put (D := (dC, dI)) (ci := 10) (v := .long (-4)) (ty := .long) (C := RX10) (T := TX10) (N := 39) hx hb hts inX10 tyX10 tyX10_ok nmX10 hown hK hP hD hS 0 rfl rfl 23 (by decide) lf160 (fun _ h9 => h9) rfl (by decide +kernel) rfl rfl (Nat.le_of_ble_eq_true rfl) dX10_nextToken_351 (fun H locs hP hD hS => ?_)
                      have hP : va_P (dC, dI) vwCl (wMod cI cZ cQ b mday mdoo mdA mdB mfar mmar mtel mgai mfal mtop mstr mgho mfai mpto mwal mahd mahf mcho mbes mbyt mtxt mpos_241 mpos_0 (-4) mdig_241 mnum_241 mfau mrdm mrea mlin mlne mthg mord mbor mbsm mans mand manr mali) H := hP
                      have hD : va_D A (wMod cI cZ cQ b mday mdoo mdA mdB mfar mmar mtel mgai mfal mtop mstr mgho mfai mpto mwal mahd mahf mcho mbes mbyt mtxt mpos_241 mpos_0 (-4) mdig_241 mnum_241 mfau mrdm mrea mlin mlne mthg mord mbor mbsm mans mand manr mali) := hD
                      refine lv_goto (tgt := 394) hx hb dX10_nextToken_354 (by decide) ?_
                      exact W.vret hx hb hr (fun tq ht hW => ⟨⟨(uS [(fun _ => mpos_241), (fun _ => mpos_0), (fun _ => 0), (fun _ => mdig_241), (fun _ => mnum_241)] (-4) (fun _ => 0)), rfl, ⟨(show mpos_241.toInt ≤ mbyt.toInt from by omega), r_mpos_241⟩, by rw [ht]; exact hP, hD⟩, hS.F ht⟩) hS.2.2 dX10_nextToken_394
                  · have dc26 : mpos_241.toInt < mbyt.toInt := nleC rfl rfl c26
                    refine lv_aload_n hx hb dX10_nextToken_252 rfl (lv_at hl 0 rfl) ?_
                    refine va_get (D := (dC, dI)) (ci := 10) (v := .ref (b 20)) (C := RX10) (T := TX10) (N := 39) hx hb hts inX10 hown hK hP 0 rfl rfl 20 (by decide) lf62 (fun _ h9 => h9) rfl dX10_nextToken_253 ?_
                    refine lv_aload_n hx hb dX10_nextToken_256 rfl (lv_at hl 0 rfl) ?_
                    refine va_get (D := (dC, dI)) (ci := 10) (v := .int mpos_241) (C := RX10) (T := TX10) (N := 39) hx hb hts inX10 hown hK hP 0 rfl rfl 21 (by decide) lf146 (fun _ h9 => h9) rfl dX10_nextToken_257 ?_
                    have b28 : vp_in mpos_241 160 := inC rfl (by omega) (by omega)
                    refine va_iald hx hb hK hP 16 0 rfl rfl b28 dX10_nextToken_260 ?_
                    refine lv_bipush (v := 48) hx hb dX10_nextToken_261 (by decide) ?_
                    refine lv_bipush (v := 57) hx hb dX10_nextToken_263 (by decide) ?_
                    refine rdS (As := [.int (mtxt mpos_241.toNatClampNeg), .int 48, .int 57]) (rest := []) ⟨hx, hb, hml, hown, hts⟩ (k_X10_in l dC dI cI cZ cQ (mtxt mpos_241.toNatClampNeg) (48 : Int32) (57 : Int32)) (va_cwS 3 hts gX10_nextToken_X10_in rfl rfl rfl (by decide +kernel) ⟨Nat.le_of_ble_eq_true rfl, Nat.le_of_ble_eq_true rfl⟩) hP hK hN [] rfl rfl hl.1 rfl (Nat.le_of_ble_eq_true rfl) dX10_nextToken_265 ⟨Nat.le_of_ble_eq_true rfl, Nat.le_of_ble_eq_true rfl⟩ (fun r29 h30 => ?_)
                    have h30 : ((((r29 = 1) ∧ ((48) ≤ (mtxt mpos_241.toNatClampNeg).toInt) ∧ ((mtxt mpos_241.toNatClampNeg).toInt ≤ (57))) ∨ ((r29 = 0) ∧ ((mtxt mpos_241.toNatClampNeg).toInt < (48) ∨ (57) < (mtxt mpos_241.toNatClampNeg).toInt)))) := h30
                    rcases h30 with (⟨rfl, h30_a0, h30_a1⟩ | ⟨rfl, h30_a0⟩)
                    · refine lv_if_eq (tgt := 333) hx hb dX10_nextToken_268 (by decide) (fun c9 => absurd c9 (by decide)) (fun _ => ?_)
                      refine lv_aload_n hx hb dX10_nextToken_271 rfl (lv_at hl 0 rfl) ?_
                      refine lv_aload_n hx hb dX10_nextToken_272 rfl (lv_at hl 0 rfl) ?_
                      refine va_get (D := (dC, dI)) (ci := 10) (v := .int mdig_241) (C := RX10) (T := TX10) (N := 39) hx hb hts inX10 hown hK hP 0 rfl rfl 24 (by decide) lf152 (fun _ h9 => h9) rfl dX10_nextToken_273 ?_
                      refine lv_iconst (v := 2) hx hb dX10_nextToken_276 (by decide) ?_
                      refine lv_icmp_ge (tgt := 303) hx hb dX10_nextToken_277 (by decide) (fun c31 => ?_) (fun c31 => ?_)
                      · have dc31 : 2 ≤ mdig_241.toInt := leC (show (2 : Int32).toInt = 2 from rfl) rfl c31
                        refine lv_aload_n hx hb dX10_nextToken_303 rfl (lv_at hl 0 rfl) ?_
                        refine va_get (D := (dC, dI)) (ci := 10) (v := .int mnum_241) (C := RX10) (T := TX10) (N := 39) hx hb hts inX10 hown hK hP 0 rfl rfl 25 (by decide) lf155 (fun _ h9 => h9) rfl dX10_nextToken_304 ?_
                        refine va_put (D := (dC, dI)) (ci := 10) (v := .int mnum_241) (ty := .int) (C := RX10) (T := TX10) (N := 39) hx hb hts inX10 tyX10 tyX10_ok nmX10 hown hK hP hD hS 0 rfl rfl 25 (by decide) lf155 (fun _ h9 => h9) rfl (by decide +kernel) rfl rfl (Nat.le_of_ble_eq_true rfl) dX10_nextToken_307 (fun H locs hP hD hS => ?_)
                        have hP : va_P (dC, dI) vwCl (wMod cI cZ cQ b mday mdoo mdA mdB mfar mmar mtel mgai mfal mtop mstr mgho mfai mpto mwal mahd mahf mcho mbes mbyt mtxt mpos_241 mpos_0 mtok mdig_241 mnum_241 mfau mrdm mrea mlin mlne mthg mord mbor mbsm mans mand manr mali) H := hP
                        have hD : va_D A (wMod cI cZ cQ b mday mdoo mdA mdB mfar mmar mtel mgai mfal mtop mstr mgho mfai mpto mwal mahd mahf mcho mbes mbyt mtxt mpos_241 mpos_0 mtok mdig_241 mnum_241 mfau mrdm mrea mlin mlne mthg mord mbor mbsm mans mand manr mali) := hD
                        refine lv_aload_n hx hb dX10_nextToken_310 rfl (lv_at hl 0 rfl) ?_
                        refine lv_dup hx hb dX10_nextToken_311 rfl ?_
                        refine va_get (D := (dC, dI)) (ci := 10) (v := .int mdig_241) (C := RX10) (T := TX10) (N := 39) hx hb hts inX10 hown hK hP 0 rfl rfl 24 (by decide) lf152 (fun _ h9 => h9) rfl dX10_nextToken_312 ?_
                        refine lv_iconst (v := 1) hx hb dX10_nextToken_315 (by decide) ?_
                        refine lv_iadd hx hb dX10_nextToken_316 ?_
                        refine lv_topi (fun x32 ex32 => ?_)
                        have ix32 : x32.toInt = (mdig_241 + 1).toInt := by rw [ex32]
                        refine va_put (D := (dC, dI)) (ci := 10) (v := .int x32) (ty := .int) (C := RX10) (T := TX10) (N := 39) hx hb hts inX10 tyX10 tyX10_ok nmX10 hown hK hP hD hS 0 rfl rfl 24 (by decide) lf152 (fun _ h9 => h9) rfl (by decide +kernel) rfl rfl (Nat.le_of_ble_eq_true rfl) dX10_nextToken_317 (fun H locs hP hD hS => ?_)
                        have hP : va_P (dC, dI) vwCl (wMod cI cZ cQ b mday mdoo mdA mdB mfar mmar mtel mgai mfal mtop mstr mgho mfai mpto mwal mahd mahf mcho mbes mbyt mtxt mpos_241 mpos_0 mtok x32 mnum_241 mfau mrdm mrea mlin mlne mthg mord mbor mbsm mans mand manr mali) H := hP
                        have hD : va_D A (wMod cI cZ cQ b mday mdoo mdA mdB mfar mmar mtel mgai mfal mtop mstr mgho mfai mpto mwal mahd mahf mcho mbes mbyt mtxt mpos_241 mpos_0 mtok x32 mnum_241 mfau mrdm mrea mlin mlne mthg mord mbor mbsm mans mand manr mali) := hD
                        refine lv_aload_n hx hb dX10_nextToken_320 rfl (lv_at hl 0 rfl) ?_
                        refine lv_dup hx hb dX10_nextToken_321 rfl ?_
                        refine va_get (D := (dC, dI)) (ci := 10) (v := .int mpos_241) (C := RX10) (T := TX10) (N := 39) hx hb hts inX10 hown hK hP 0 rfl rfl 21 (by decide) lf146 (fun _ h9 => h9) rfl dX10_nextToken_322 ?_
                        refine lv_iconst (v := 1) hx hb dX10_nextToken_325 (by decide) ?_
                        refine lv_iadd hx hb dX10_nextToken_326 ?_
                        have f33 : (mpos_241 + 1).toInt = (mpos_241.toInt) + (1) := addC rfl (show (1 : Int32).toInt = 1 from rfl) (by omega) (by omega)
                        refine lv_topi (fun x34 ex34 => ?_)
                        have ix34 : x34.toInt = (mpos_241.toInt) + (1) := by rw [ex34]; exact f33
                        refine va_put (D := (dC, dI)) (ci := 10) (v := .int x34) (ty := .int) (C := RX10) (T := TX10) (N := 39) hx hb hts inX10 tyX10 tyX10_ok nmX10 hown hK hP hD hS 0 rfl rfl 21 (by decide) lf146 (fun _ h9 => h9) rfl (by decide +kernel) rfl rfl (Nat.le_of_ble_eq_true rfl) dX10_nextToken_327 (fun H locs hP hD hS => ?_)
                        have g35 : 0 ≤ x34.toInt ∧ x34.toInt ≤ 160 := by rw [show x34.toInt = x34.toInt from rfl]; exact ⟨by omega, by omega⟩
                        have hP : va_P (dC, dI) vwCl (wMod cI cZ cQ b mday mdoo mdA mdB mfar mmar mtel mgai mfal mtop mstr mgho mfai mpto mwal mahd mahf mcho mbes mbyt mtxt x34 mpos_0 mtok x32 mnum_241 mfau mrdm mrea mlin mlne mthg mord mbor mbsm mans mand manr mali) H := hP
                        have hD : va_D A (wMod cI cZ cQ b mday mdoo mdA mdB mfar mmar mtel mgai mfal mtop mstr mgho mfai mpto mwal mahd mahf mcho mbes mbyt mtxt x34 mpos_0 mtok x32 mnum_241 mfau mrdm mrea mlin mlne mthg mord mbor mbsm mans mand manr mali) := hD
                        refine lv_goto (tgt := 241) hx hb dX10_nextToken_330 (by decide) ?_
                        exact ih241 x34 x32 mnum_241 _ _ _ g35 (by omega) (by omega) hP hD hS (lv_sub hl [0] rfl)
                      · have dc31 : mdig_241.toInt < 2 := nleC (show (2 : Int32).toInt = 2 from rfl) rfl c31
                        refine lv_bipush (v := 10) hx hb dX10_nextToken_280 (by decide) ?_
                        refine lv_aload_n hx hb dX10_nextToken_282 rfl (lv_at hl 0 rfl) ?_
                        refine va_get (D := (dC, dI)) (ci := 10) (v := .int mnum_241) (C := RX10) (T := TX10) (N := 39) hx hb hts inX10 hown hK hP 0 rfl rfl 25 (by decide) lf155 (fun _ h9 => h9) rfl dX10_nextToken_283 ?_
                        refine lv_imul hx hb dX10_nextToken_286 ?_
                        refine lv_aload_n hx hb dX10_nextToken_287 rfl (lv_at hl 0 rfl) ?_
                        refine va_get (D := (dC, dI)) (ci := 10) (v := .ref (b 20)) (C := RX10) (T := TX10) (N := 39) hx hb hts inX10 hown hK hP 0 rfl rfl 20 (by decide) lf62 (fun _ h9 => h9) rfl dX10_nextToken_288 ?_
                        refine lv_aload_n hx hb dX10_nextToken_291 rfl (lv_at hl 0 rfl) ?_
                        refine va_get (D := (dC, dI)) (ci := 10) (v := .int mpos_241) (C := RX10) (T := TX10) (N := 39) hx hb hts inX10 hown hK hP 0 rfl rfl 21 (by decide) lf146 (fun _ h9 => h9) rfl dX10_nextToken_292 ?_
                        have b36 : vp_in mpos_241 160 := inC rfl (by omega) (by omega)
                        refine va_iald hx hb hK hP 16 0 rfl rfl b36 dX10_nextToken_295 ?_
                        refine lv_iadd hx hb dX10_nextToken_296 ?_
                        refine lv_bipush (v := 48) hx hb dX10_nextToken_297 (by decide) ?_
                        refine lv_isub hx hb dX10_nextToken_299 ?_
                        refine lv_goto (tgt := 307) hx hb dX10_nextToken_300 (by decide) ?_
                        refine lv_topi (fun x37 ex37 => ?_)
                        have ix37 : x37.toInt = (((10 * mnum_241) + (mtxt mpos_241.toNatClampNeg)) - 48).toInt := by rw [ex37]
                        refine va_put (D := (dC, dI)) (ci := 10) (v := .int x37) (ty := .int) (C := RX10) (T := TX10) (N := 39) hx hb hts inX10 tyX10 tyX10_ok nmX10 hown hK hP hD hS 0 rfl rfl 25 (by decide) lf155 (fun _ h9 => h9) rfl (by decide +kernel) rfl rfl (Nat.le_of_ble_eq_true rfl) dX10_nextToken_307 (fun H locs hP hD hS => ?_)
                        have hP : va_P (dC, dI) vwCl (wMod cI cZ cQ b mday mdoo mdA mdB mfar mmar mtel mgai mfal mtop mstr mgho mfai mpto mwal mahd mahf mcho mbes mbyt mtxt mpos_241 mpos_0 mtok mdig_241 x37 mfau mrdm mrea mlin mlne mthg mord mbor mbsm mans mand manr mali) H := hP
                        have hD : va_D A (wMod cI cZ cQ b mday mdoo mdA mdB mfar mmar mtel mgai mfal mtop mstr mgho mfai mpto mwal mahd mahf mcho mbes mbyt mtxt mpos_241 mpos_0 mtok mdig_241 x37 mfau mrdm mrea mlin mlne mthg mord mbor mbsm mans mand manr mali) := hD
                        refine lv_aload_n hx hb dX10_nextToken_310 rfl (lv_at hl 0 rfl) ?_
                        refine lv_dup hx hb dX10_nextToken_311 rfl ?_
                        refine va_get (D := (dC, dI)) (ci := 10) (v := .int mdig_241) (C := RX10) (T := TX10) (N := 39) hx hb hts inX10 hown hK hP 0 rfl rfl 24 (by decide) lf152 (fun _ h9 => h9) rfl dX10_nextToken_312 ?_
                        refine lv_iconst (v := 1) hx hb dX10_nextToken_315 (by decide) ?_
                        refine lv_iadd hx hb dX10_nextToken_316 ?_
                        refine lv_topi (fun x38 ex38 => ?_)
                        have ix38 : x38.toInt = (mdig_241 + 1).toInt := by rw [ex38]
                        refine va_put (D := (dC, dI)) (ci := 10) (v := .int x38) (ty := .int) (C := RX10) (T := TX10) (N := 39) hx hb hts inX10 tyX10 tyX10_ok nmX10 hown hK hP hD hS 0 rfl rfl 24 (by decide) lf152 (fun _ h9 => h9) rfl (by decide +kernel) rfl rfl (Nat.le_of_ble_eq_true rfl) dX10_nextToken_317 (fun H locs hP hD hS => ?_)
                        have hP : va_P (dC, dI) vwCl (wMod cI cZ cQ b mday mdoo mdA mdB mfar mmar mtel mgai mfal mtop mstr mgho mfai mpto mwal mahd mahf mcho mbes mbyt mtxt mpos_241 mpos_0 mtok x38 x37 mfau mrdm mrea mlin mlne mthg mord mbor mbsm mans mand manr mali) H := hP
                        have hD : va_D A (wMod cI cZ cQ b mday mdoo mdA mdB mfar mmar mtel mgai mfal mtop mstr mgho mfai mpto mwal mahd mahf mcho mbes mbyt mtxt mpos_241 mpos_0 mtok x38 x37 mfau mrdm mrea mlin mlne mthg mord mbor mbsm mans mand manr mali) := hD
                        refine lv_aload_n hx hb dX10_nextToken_320 rfl (lv_at hl 0 rfl) ?_
                        refine lv_dup hx hb dX10_nextToken_321 rfl ?_
                        refine va_get (D := (dC, dI)) (ci := 10) (v := .int mpos_241) (C := RX10) (T := TX10) (N := 39) hx hb hts inX10 hown hK hP 0 rfl rfl 21 (by decide) lf146 (fun _ h9 => h9) rfl dX10_nextToken_322 ?_
                        refine lv_iconst (v := 1) hx hb dX10_nextToken_325 (by decide) ?_
                        refine lv_iadd hx hb dX10_nextToken_326 ?_
                        have f39 : (mpos_241 + 1).toInt = (mpos_241.toInt) + (1) := addC rfl (show (1 : Int32).toInt = 1 from rfl) (by omega) (by omega)
                        refine lv_topi (fun x40 ex40 => ?_)
                        have ix40 : x40.toInt = (mpos_241.toInt) + (1) := by rw [ex40]; exact f39
                        refine va_put (D := (dC, dI)) (ci := 10) (v := .int x40) (ty := .int) (C := RX10) (T := TX10) (N := 39) hx hb hts inX10 tyX10 tyX10_ok nmX10 hown hK hP hD hS 0 rfl rfl 21 (by decide) lf146 (fun _ h9 => h9) rfl (by decide +kernel) rfl rfl (Nat.le_of_ble_eq_true rfl) dX10_nextToken_327 (fun H locs hP hD hS => ?_)
                        have g41 : 0 ≤ x40.toInt ∧ x40.toInt ≤ 160 := by rw [show x40.toInt = x40.toInt from rfl]; exact ⟨by omega, by omega⟩
                        have hP : va_P (dC, dI) vwCl (wMod cI cZ cQ b mday mdoo mdA mdB mfar mmar mtel mgai mfal mtop mstr mgho mfai mpto mwal mahd mahf mcho mbes mbyt mtxt x40 mpos_0 mtok x38 x37 mfau mrdm mrea mlin mlne mthg mord mbor mbsm mans mand manr mali) H := hP
                        have hD : va_D A (wMod cI cZ cQ b mday mdoo mdA mdB mfar mmar mtel mgai mfal mtop mstr mgho mfai mpto mwal mahd mahf mcho mbes mbyt mtxt x40 mpos_0 mtok x38 x37 mfau mrdm mrea mlin mlne mthg mord mbor mbsm mans mand manr mali) := hD
                        refine lv_goto (tgt := 241) hx hb dX10_nextToken_330 (by decide) ?_
                        exact ih241 x40 x38 x37 _ _ _ g41 (by omega) (by omega) hP hD hS (lv_sub hl [0] rfl)
                    · refine lv_if_eq (tgt := 333) hx hb dX10_nextToken_268 (by decide) (fun _ => ?_) (fun c9 => absurd (by decide) c9)
                      refine lv_aload_n hx hb dX10_nextToken_333 rfl (lv_at hl 0 rfl) ?_
                      refine lv_aload_n hx hb dX10_nextToken_334 rfl (lv_at hl 0 rfl) ?_
                      refine va_get (D := (dC, dI)) (ci := 10) (v := .int mdig_241) (C := RX10) (T := TX10) (N := 39) hx hb hts inX10 hown hK hP 0 rfl rfl 24 (by decide) lf152 (fun _ h9 => h9) rfl dX10_nextToken_335 ?_
                      refine lv_iconst (v := 2) hx hb dX10_nextToken_338 (by decide) ?_
                      refine lv_icmp_le (tgt := 348) hx hb dX10_nextToken_339 (by decide) (fun c42 => ?_) (fun c42 => ?_)
                      · have dc42 : mdig_241.toInt ≤ 2 := leC rfl (show (2 : Int32).toInt = 2 from rfl) c42
                        refine lv_ldc2 (v := (-1)) hx hb hown (hts (.constantLong RX10 170 (-1)) (by decide +kernel)) dX10_nextToken_348 ?_
                        refine va_put (D := (dC, dI)) (ci := 10) (v := .long (-1)) (ty := .long) (C := RX10) (T := TX10) (N := 39) hx hb hts inX10 tyX10 tyX10_ok nmX10 hown hK hP hD hS 0 rfl rfl 23 (by decide) lf160 (fun _ h9 => h9) rfl (by decide +kernel) rfl rfl (Nat.le_of_ble_eq_true rfl) dX10_nextToken_351 (fun H locs hP hD hS => ?_)
                        have hP : va_P (dC, dI) vwCl (wMod cI cZ cQ b mday mdoo mdA mdB mfar mmar mtel mgai mfal mtop mstr mgho mfai mpto mwal mahd mahf mcho mbes mbyt mtxt mpos_241 mpos_0 (-1) mdig_241 mnum_241 mfau mrdm mrea mlin mlne mthg mord mbor mbsm mans mand manr mali) H := hP
                        have hD : va_D A (wMod cI cZ cQ b mday mdoo mdA mdB mfar mmar mtel mgai mfal mtop mstr mgho mfai mpto mwal mahd mahf mcho mbes mbyt mtxt mpos_241 mpos_0 (-1) mdig_241 mnum_241 mfau mrdm mrea mlin mlne mthg mord mbor mbsm mans mand manr mali) := hD
                        refine lv_goto (tgt := 394) hx hb dX10_nextToken_354 (by decide) ?_
                        exact W.vret hx hb hr (fun tq ht hW => ⟨⟨(uS [(fun _ => mpos_241), (fun _ => mpos_0), (fun _ => 0), (fun _ => mdig_241), (fun _ => mnum_241)] (-1) (fun _ => 0)), rfl, ⟨(show mpos_241.toInt ≤ mbyt.toInt from by omega), r_mpos_241⟩, by rw [ht]; exact hP, hD⟩, hS.F ht⟩) hS.2.2 dX10_nextToken_394
                      · have dc42 : 2 < mdig_241.toInt := nleC rfl (show (2 : Int32).toInt = 2 from rfl) c42
                        refine lv_ldc2 (v := (-4)) hx hb hown (hts (.constantLong RX10 168 (-4)) (by decide +kernel)) dX10_nextToken_342 ?_
                        refine lv_goto (tgt := 351) hx hb dX10_nextToken_345 (by decide) ?_
                        refine va_put (D := (dC, dI)) (ci := 10) (v := .long (-4)) (ty := .long) (C := RX10) (T := TX10) (N := 39) hx hb hts inX10 tyX10 tyX10_ok nmX10 hown hK hP hD hS 0 rfl rfl 23 (by decide) lf160 (fun _ h9 => h9) rfl (by decide +kernel) rfl rfl (Nat.le_of_ble_eq_true rfl) dX10_nextToken_351 (fun H locs hP hD hS => ?_)
                        have hP : va_P (dC, dI) vwCl (wMod cI cZ cQ b mday mdoo mdA mdB mfar mmar mtel mgai mfal mtop mstr mgho mfai mpto mwal mahd mahf mcho mbes mbyt mtxt mpos_241 mpos_0 (-4) mdig_241 mnum_241 mfau mrdm mrea mlin mlne mthg mord mbor mbsm mans mand manr mali) H := hP
                        have hD : va_D A (wMod cI cZ cQ b mday mdoo mdA mdB mfar mmar mtel mgai mfal mtop mstr mgho mfai mpto mwal mahd mahf mcho mbes mbyt mtxt mpos_241 mpos_0 (-4) mdig_241 mnum_241 mfau mrdm mrea mlin mlne mthg mord mbor mbsm mans mand manr mali) := hD
                        refine lv_goto (tgt := 394) hx hb dX10_nextToken_354 (by decide) ?_
                        exact W.vret hx hb hr (fun tq ht hW => ⟨⟨(uS [(fun _ => mpos_241), (fun _ => mpos_0), (fun _ => 0), (fun _ => mdig_241), (fun _ => mnum_241)] (-4) (fun _ => 0)), rfl, ⟨(show mpos_241.toInt ≤ mbyt.toInt from by omega), r_mpos_241⟩, by rw [ht]; exact hP, hD⟩, hS.F ht⟩) hS.2.2 dX10_nextToken_394
              have kc43 : (0 : Int32).toInt = 0 := rfl
              exact L241 _ mpos_0 0 0 _ _ _ r_mpos_0 (by omega) (Nat.lt_succ_self _) hP hD hS (lv_sub hl [0] rfl)
            · refine lv_if_eq (tgt := 357) hx hb dX10_nextToken_238 (by decide) (fun _ => ?_) (fun c9 => absurd (by decide) c9)
              refine lv_aload_n hx hb dX10_nextToken_357 rfl (lv_at hl 0 rfl) ?_
              refine lv_aload_n hx hb dX10_nextToken_358 rfl (lv_at hl 0 rfl) ?_
              refine va_get (D := (dC, dI)) (ci := 10) (v := .ref (b 20)) (C := RX10) (T := TX10) (N := 39) hx hb hts inX10 hown hK hP 0 rfl rfl 20 (by decide) lf62 (fun _ h9 => h9) rfl dX10_nextToken_359 ?_
              refine lv_aload_n hx hb dX10_nextToken_362 rfl (lv_at hl 0 rfl) ?_
              refine va_get (D := (dC, dI)) (ci := 10) (v := .int mpos_0) (C := RX10) (T := TX10) (N := 39) hx hb hts inX10 hown hK hP 0 rfl rfl 21 (by decide) lf146 (fun _ h9 => h9) rfl dX10_nextToken_363 ?_
              have b44 : vp_in mpos_0 160 := inC rfl (by omega) (by omega)
              refine va_iald hx hb hK hP 16 0 rfl rfl b44 dX10_nextToken_366 ?_
              refine lv_bipush (v := 59) hx hb dX10_nextToken_367 (by decide) ?_
              refine lv_icmp_ne (tgt := 378) hx hb dX10_nextToken_369 (by decide) (fun c45 => ?_) (fun c45 => ?_)
              · have dc45 : (mtxt mpos_0.toNatClampNeg).toInt ≠ 59 := neC rfl (show (59 : Int32).toInt = 59 from rfl) c45
                refine lv_ldc2 (v := (-4)) hx hb hown (hts (.constantLong RX10 168 (-4)) (by decide +kernel)) dX10_nextToken_378 ?_
                refine va_put (D := (dC, dI)) (ci := 10) (v := .long (-4)) (ty := .long) (C := RX10) (T := TX10) (N := 39) hx hb hts inX10 tyX10 tyX10_ok nmX10 hown hK hP hD hS 0 rfl rfl 23 (by decide) lf160 (fun _ h9 => h9) rfl (by decide +kernel) rfl rfl (Nat.le_of_ble_eq_true rfl) dX10_nextToken_381 (fun H locs hP hD hS => ?_)
                have hP : va_P (dC, dI) vwCl (wMod cI cZ cQ b mday mdoo mdA mdB mfar mmar mtel mgai mfal mtop mstr mgho mfai mpto mwal mahd mahf mcho mbes mbyt mtxt mpos_0 mpos_0 (-4) 0 0 mfau mrdm mrea mlin mlne mthg mord mbor mbsm mans mand manr mali) H := hP
                have hD : va_D A (wMod cI cZ cQ b mday mdoo mdA mdB mfar mmar mtel mgai mfal mtop mstr mgho mfai mpto mwal mahd mahf mcho mbes mbyt mtxt mpos_0 mpos_0 (-4) 0 0 mfau mrdm mrea mlin mlne mthg mord mbor mbsm mans mand manr mali) := hD
                refine lv_aload_n hx hb dX10_nextToken_384 rfl (lv_at hl 0 rfl) ?_
                refine lv_dup hx hb dX10_nextToken_385 rfl ?_
                refine va_get (D := (dC, dI)) (ci := 10) (v := .int mpos_0) (C := RX10) (T := TX10) (N := 39) hx hb hts inX10 hown hK hP 0 rfl rfl 21 (by decide) lf146 (fun _ h9 => h9) rfl dX10_nextToken_386 ?_
                refine lv_iconst (v := 1) hx hb dX10_nextToken_389 (by decide) ?_
                refine lv_iadd hx hb dX10_nextToken_390 ?_
                have f46 : (mpos_0 + 1).toInt = (mpos_0.toInt) + (1) := addC rfl (show (1 : Int32).toInt = 1 from rfl) (by omega) (by omega)
                refine lv_topi (fun x47 ex47 => ?_)
                have ix47 : x47.toInt = (mpos_0.toInt) + (1) := by rw [ex47]; exact f46
                refine va_put (D := (dC, dI)) (ci := 10) (v := .int x47) (ty := .int) (C := RX10) (T := TX10) (N := 39) hx hb hts inX10 tyX10 tyX10_ok nmX10 hown hK hP hD hS 0 rfl rfl 21 (by decide) lf146 (fun _ h9 => h9) rfl (by decide +kernel) rfl rfl (Nat.le_of_ble_eq_true rfl) dX10_nextToken_391 (fun H locs hP hD hS => ?_)
                have g48 : 0 ≤ x47.toInt ∧ x47.toInt ≤ 160 := by rw [show x47.toInt = x47.toInt from rfl]; exact ⟨by omega, by omega⟩
                have hP : va_P (dC, dI) vwCl (wMod cI cZ cQ b mday mdoo mdA mdB mfar mmar mtel mgai mfal mtop mstr mgho mfai mpto mwal mahd mahf mcho mbes mbyt mtxt x47 mpos_0 (-4) 0 0 mfau mrdm mrea mlin mlne mthg mord mbor mbsm mans mand manr mali) H := hP
                have hD : va_D A (wMod cI cZ cQ b mday mdoo mdA mdB mfar mmar mtel mgai mfal mtop mstr mgho mfai mpto mwal mahd mahf mcho mbes mbyt mtxt x47 mpos_0 (-4) 0 0 mfau mrdm mrea mlin mlne mthg mord mbor mbsm mans mand manr mali) := hD
                exact W.vret hx hb hr (fun tq ht hW => ⟨⟨(uS [(fun _ => x47), (fun _ => mpos_0), (fun _ => 0), (fun _ => 0), (fun _ => 0)] (-4) (fun _ => 0)), rfl, ⟨(show x47.toInt ≤ mbyt.toInt from by omega), g48⟩, by rw [ht]; exact hP, hD⟩, hS.F ht⟩) hS.2.2 dX10_nextToken_394
              · have dc45 : (mtxt mpos_0.toNatClampNeg).toInt = 59 := eqC rfl (show (59 : Int32).toInt = 59 from rfl) c45
                refine lv_ldc2 (v := (-3)) hx hb hown (hts (.constantLong RX10 172 (-3)) (by decide +kernel)) dX10_nextToken_372 ?_
                refine lv_goto (tgt := 381) hx hb dX10_nextToken_375 (by decide) ?_
                refine va_put (D := (dC, dI)) (ci := 10) (v := .long (-3)) (ty := .long) (C := RX10) (T := TX10) (N := 39) hx hb hts inX10 tyX10 tyX10_ok nmX10 hown hK hP hD hS 0 rfl rfl 23 (by decide) lf160 (fun _ h9 => h9) rfl (by decide +kernel) rfl rfl (Nat.le_of_ble_eq_true rfl) dX10_nextToken_381 (fun H locs hP hD hS => ?_)
                have hP : va_P (dC, dI) vwCl (wMod cI cZ cQ b mday mdoo mdA mdB mfar mmar mtel mgai mfal mtop mstr mgho mfai mpto mwal mahd mahf mcho mbes mbyt mtxt mpos_0 mpos_0 (-3) 0 0 mfau mrdm mrea mlin mlne mthg mord mbor mbsm mans mand manr mali) H := hP
                have hD : va_D A (wMod cI cZ cQ b mday mdoo mdA mdB mfar mmar mtel mgai mfal mtop mstr mgho mfai mpto mwal mahd mahf mcho mbes mbyt mtxt mpos_0 mpos_0 (-3) 0 0 mfau mrdm mrea mlin mlne mthg mord mbor mbsm mans mand manr mali) := hD
                refine lv_aload_n hx hb dX10_nextToken_384 rfl (lv_at hl 0 rfl) ?_
                refine lv_dup hx hb dX10_nextToken_385 rfl ?_
                refine va_get (D := (dC, dI)) (ci := 10) (v := .int mpos_0) (C := RX10) (T := TX10) (N := 39) hx hb hts inX10 hown hK hP 0 rfl rfl 21 (by decide) lf146 (fun _ h9 => h9) rfl dX10_nextToken_386 ?_
                refine lv_iconst (v := 1) hx hb dX10_nextToken_389 (by decide) ?_
                refine lv_iadd hx hb dX10_nextToken_390 ?_
                have f49 : (mpos_0 + 1).toInt = (mpos_0.toInt) + (1) := addC rfl (show (1 : Int32).toInt = 1 from rfl) (by omega) (by omega)
                refine lv_topi (fun x50 ex50 => ?_)
                have ix50 : x50.toInt = (mpos_0.toInt) + (1) := by rw [ex50]; exact f49
                refine va_put (D := (dC, dI)) (ci := 10) (v := .int x50) (ty := .int) (C := RX10) (T := TX10) (N := 39) hx hb hts inX10 tyX10 tyX10_ok nmX10 hown hK hP hD hS 0 rfl rfl 21 (by decide) lf146 (fun _ h9 => h9) rfl (by decide +kernel) rfl rfl (Nat.le_of_ble_eq_true rfl) dX10_nextToken_391 (fun H locs hP hD hS => ?_)
                have g51 : 0 ≤ x50.toInt ∧ x50.toInt ≤ 160 := by rw [show x50.toInt = x50.toInt from rfl]; exact ⟨by omega, by omega⟩
                have hP : va_P (dC, dI) vwCl (wMod cI cZ cQ b mday mdoo mdA mdB mfar mmar mtel mgai mfal mtop mstr mgho mfai mpto mwal mahd mahf mcho mbes mbyt mtxt x50 mpos_0 (-3) 0 0 mfau mrdm mrea mlin mlne mthg mord mbor mbsm mans mand manr mali) H := hP
                have hD : va_D A (wMod cI cZ cQ b mday mdoo mdA mdB mfar mmar mtel mgai mfal mtop mstr mgho mfai mpto mwal mahd mahf mcho mbes mbyt mtxt x50 mpos_0 (-3) 0 0 mfau mrdm mrea mlin mlne mthg mord mbor mbsm mans mand manr mali) := hD
                exact W.vret hx hb hr (fun tq ht hW => ⟨⟨(uS [(fun _ => x50), (fun _ => mpos_0), (fun _ => 0), (fun _ => 0), (fun _ => 0)] (-3) (fun _ => 0)), rfl, ⟨(show x50.toInt ≤ mbyt.toInt from by omega), g51⟩, by rw [ht]; exact hP, hD⟩, hS.F ht⟩) hS.2.2 dX10_nextToken_394
        · have dc2 : mpos_0.toInt = mbyt.toInt := eqC rfl rfl c2
          refine lv_aload_n hx hb dX10_nextToken_67 rfl (lv_at hl 0 rfl) ?_
          refine lv_ldc2 (v := (-2)) hx hb hown (hts (.constantLong RX10 158 (-2)) (by decide +kernel)) dX10_nextToken_68 ?_
          refine va_put (D := (dC, dI)) (ci := 10) (v := .long (-2)) (ty := .long) (C := RX10) (T := TX10) (N := 39) hx hb hts inX10 tyX10 tyX10_ok nmX10 hown hK hP hD hS 0 rfl rfl 23 (by decide) lf160 (fun _ h9 => h9) rfl (by decide +kernel) rfl rfl (Nat.le_of_ble_eq_true rfl) dX10_nextToken_71 (fun H locs hP hD hS => ?_)
          have hP : va_P (dC, dI) vwCl (wMod cI cZ cQ b mday mdoo mdA mdB mfar mmar mtel mgai mfal mtop mstr mgho mfai mpto mwal mahd mahf mcho mbes mbyt mtxt mpos_0 mpos_0 (-2) 0 0 mfau mrdm mrea mlin mlne mthg mord mbor mbsm mans mand manr mali) H := hP
          have hD : va_D A (wMod cI cZ cQ b mday mdoo mdA mdB mfar mmar mtel mgai mfal mtop mstr mgho mfai mpto mwal mahd mahf mcho mbes mbyt mtxt mpos_0 mpos_0 (-2) 0 0 mfau mrdm mrea mlin mlne mthg mord mbor mbsm mans mand manr mali) := hD
          refine lv_goto (tgt := 394) hx hb dX10_nextToken_74 (by decide) ?_
          exact W.vret hx hb hr (fun tq ht hW => ⟨⟨(uS [(fun _ => mpos_0), (fun _ => mpos_0), (fun _ => 0), (fun _ => 0), (fun _ => 0)] (-2) (fun _ => 0)), rfl, ⟨(show mpos_0.toInt ≤ mbyt.toInt from by omega), r_mpos_0⟩, by rw [ht]; exact hP, hD⟩, hS.F ht⟩) hS.2.2 dX10_nextToken_394
      · have dc1 : mpos_0.toInt < mbyt.toInt := nleC rfl rfl c1
        refine lv_aload_n hx hb dX10_nextToken_11 rfl (lv_at hl 0 rfl) ?_
        refine va_get (D := (dC, dI)) (ci := 10) (v := .ref (b 20)) (C := RX10) (T := TX10) (N := 39) hx hb hts inX10 hown hK hP 0 rfl rfl 20 (by decide) lf62 (fun _ h9 => h9) rfl dX10_nextToken_12 ?_
        refine lv_aload_n hx hb dX10_nextToken_15 rfl (lv_at hl 0 rfl) ?_
        refine va_get (D := (dC, dI)) (ci := 10) (v := .int mpos_0) (C := RX10) (T := TX10) (N := 39) hx hb hts inX10 hown hK hP 0 rfl rfl 21 (by decide) lf146 (fun _ h9 => h9) rfl dX10_nextToken_16 ?_
        have b52 : vp_in mpos_0 160 := inC rfl (by omega) (by omega)
        refine va_iald hx hb hK hP 16 0 rfl rfl b52 dX10_nextToken_19 ?_
        refine lv_bipush (v := 32) hx hb dX10_nextToken_20 (by decide) ?_
        refine lv_icmp_ne (tgt := 38) hx hb dX10_nextToken_22 (by decide) (fun c53 => ?_) (fun c53 => ?_)
        · have dc53 : (mtxt mpos_0.toNatClampNeg).toInt ≠ 32 := neC rfl (show (32 : Int32).toInt = 32 from rfl) c53
          refine lv_aload_n hx hb dX10_nextToken_38 rfl (lv_at hl 0 rfl) ?_
          refine lv_aload_n hx hb dX10_nextToken_39 rfl (lv_at hl 0 rfl) ?_
          refine va_get (D := (dC, dI)) (ci := 10) (v := .int mpos_0) (C := RX10) (T := TX10) (N := 39) hx hb hts inX10 hown hK hP 0 rfl rfl 21 (by decide) lf146 (fun _ h9 => h9) rfl dX10_nextToken_40 ?_
          refine va_put (D := (dC, dI)) (ci := 10) (v := .int mpos_0) (ty := .int) (C := RX10) (T := TX10) (N := 39) hx hb hts inX10 tyX10 tyX10_ok nmX10 hown hK hP hD hS 0 rfl rfl 22 (by decide) lf149 (fun _ h9 => h9) rfl (by decide +kernel) rfl rfl (Nat.le_of_ble_eq_true rfl) dX10_nextToken_43 (fun H locs hP hD hS => ?_)
          have hP : va_P (dC, dI) vwCl (wMod cI cZ cQ b mday mdoo mdA mdB mfar mmar mtel mgai mfal mtop mstr mgho mfai mpto mwal mahd mahf mcho mbes mbyt mtxt mpos_0 mpos_0 mtok mdig mnum mfau mrdm mrea mlin mlne mthg mord mbor mbsm mans mand manr mali) H := hP
          have hD : va_D A (wMod cI cZ cQ b mday mdoo mdA mdB mfar mmar mtel mgai mfal mtop mstr mgho mfai mpto mwal mahd mahf mcho mbes mbyt mtxt mpos_0 mpos_0 mtok mdig mnum mfau mrdm mrea mlin mlne mthg mord mbor mbsm mans mand manr mali) := hD
          refine lv_aload_n hx hb dX10_nextToken_46 rfl (lv_at hl 0 rfl) ?_
          refine lv_iconst (v := 0) hx hb dX10_nextToken_47 (by decide) ?_
          refine va_put (D := (dC, dI)) (ci := 10) (v := .int 0) (ty := .int) (C := RX10) (T := TX10) (N := 39) hx hb hts inX10 tyX10 tyX10_ok nmX10 hown hK hP hD hS 0 rfl rfl 24 (by decide) lf152 (fun _ h9 => h9) rfl (by decide +kernel) rfl rfl (Nat.le_of_ble_eq_true rfl) dX10_nextToken_48 (fun H locs hP hD hS => ?_)
          have hP : va_P (dC, dI) vwCl (wMod cI cZ cQ b mday mdoo mdA mdB mfar mmar mtel mgai mfal mtop mstr mgho mfai mpto mwal mahd mahf mcho mbes mbyt mtxt mpos_0 mpos_0 mtok 0 mnum mfau mrdm mrea mlin mlne mthg mord mbor mbsm mans mand manr mali) H := hP
          have hD : va_D A (wMod cI cZ cQ b mday mdoo mdA mdB mfar mmar mtel mgai mfal mtop mstr mgho mfai mpto mwal mahd mahf mcho mbes mbyt mtxt mpos_0 mpos_0 mtok 0 mnum mfau mrdm mrea mlin mlne mthg mord mbor mbsm mans mand manr mali) := hD
          refine lv_aload_n hx hb dX10_nextToken_51 rfl (lv_at hl 0 rfl) ?_
          refine lv_iconst (v := 0) hx hb dX10_nextToken_52 (by decide) ?_
          refine va_put (D := (dC, dI)) (ci := 10) (v := .int 0) (ty := .int) (C := RX10) (T := TX10) (N := 39) hx hb hts inX10 tyX10 tyX10_ok nmX10 hown hK hP hD hS 0 rfl rfl 25 (by decide) lf155 (fun _ h9 => h9) rfl (by decide +kernel) rfl rfl (Nat.le_of_ble_eq_true rfl) dX10_nextToken_53 (fun H locs hP hD hS => ?_)
          have hP : va_P (dC, dI) vwCl (wMod cI cZ cQ b mday mdoo mdA mdB mfar mmar mtel mgai mfal mtop mstr mgho mfai mpto mwal mahd mahf mcho mbes mbyt mtxt mpos_0 mpos_0 mtok 0 0 mfau mrdm mrea mlin mlne mthg mord mbor mbsm mans mand manr mali) H := hP
          have hD : va_D A (wMod cI cZ cQ b mday mdoo mdA mdB mfar mmar mtel mgai mfal mtop mstr mgho mfai mpto mwal mahd mahf mcho mbes mbyt mtxt mpos_0 mpos_0 mtok 0 0 mfau mrdm mrea mlin mlne mthg mord mbor mbsm mans mand manr mali) := hD
          refine lv_aload_n hx hb dX10_nextToken_56 rfl (lv_at hl 0 rfl) ?_
          refine va_get (D := (dC, dI)) (ci := 10) (v := .int mpos_0) (C := RX10) (T := TX10) (N := 39) hx hb hts inX10 hown hK hP 0 rfl rfl 21 (by decide) lf146 (fun _ h9 => h9) rfl dX10_nextToken_57 ?_
          refine lv_aload_n hx hb dX10_nextToken_60 rfl (lv_at hl 0 rfl) ?_
          refine va_get (D := (dC, dI)) (ci := 10) (v := .int mbyt) (C := RX10) (T := TX10) (N := 39) hx hb hts inX10 hown hK hP 0 rfl rfl 19 (by decide) lf141 (fun _ h9 => h9) rfl dX10_nextToken_61 ?_
          refine lv_icmp_ne (tgt := 77) hx hb dX10_nextToken_64 (by decide) (fun c54 => ?_) (fun c54 => ?_)
          · have dc54 : mpos_0.toInt ≠ mbyt.toInt := neC rfl rfl c54
            refine lv_aload_n hx hb dX10_nextToken_77 rfl (lv_at hl 0 rfl) ?_
            refine va_get (D := (dC, dI)) (ci := 10) (v := .ref (b 20)) (C := RX10) (T := TX10) (N := 39) hx hb hts inX10 hown hK hP 0 rfl rfl 20 (by decide) lf62 (fun _ h9 => h9) rfl dX10_nextToken_78 ?_
            refine lv_aload_n hx hb dX10_nextToken_81 rfl (lv_at hl 0 rfl) ?_
            refine va_get (D := (dC, dI)) (ci := 10) (v := .int mpos_0) (C := RX10) (T := TX10) (N := 39) hx hb hts inX10 hown hK hP 0 rfl rfl 21 (by decide) lf146 (fun _ h9 => h9) rfl dX10_nextToken_82 ?_
            have b55 : vp_in mpos_0 160 := inC rfl (by omega) (by omega)
            refine va_iald hx hb hK hP 16 0 rfl rfl b55 dX10_nextToken_85 ?_
            refine lv_bipush (v := 97) hx hb dX10_nextToken_86 (by decide) ?_
            refine lv_bipush (v := 122) hx hb dX10_nextToken_88 (by decide) ?_
            refine rdS (As := [.int (mtxt mpos_0.toNatClampNeg), .int 97, .int 122]) (rest := []) ⟨hx, hb, hml, hown, hts⟩ (k_X10_in l dC dI cI cZ cQ (mtxt mpos_0.toNatClampNeg) (97 : Int32) (122 : Int32)) (va_cwS 3 hts gX10_nextToken_X10_in rfl rfl rfl (by decide +kernel) ⟨Nat.le_of_ble_eq_true rfl, Nat.le_of_ble_eq_true rfl⟩) hP hK hN [] rfl rfl hl.1 rfl (Nat.le_of_ble_eq_true rfl) dX10_nextToken_90 ⟨Nat.le_of_ble_eq_true rfl, Nat.le_of_ble_eq_true rfl⟩ (fun r56 h57 => ?_)
            have h57 : ((((r56 = 1) ∧ ((97) ≤ (mtxt mpos_0.toNatClampNeg).toInt) ∧ ((mtxt mpos_0.toNatClampNeg).toInt ≤ (122))) ∨ ((r56 = 0) ∧ ((mtxt mpos_0.toNatClampNeg).toInt < (97) ∨ (122) < (mtxt mpos_0.toNatClampNeg).toInt)))) := h57
            rcases h57 with (⟨rfl, h57_a0, h57_a1⟩ | ⟨rfl, h57_a0⟩)
            · refine lv_if_eq (tgt := 222) hx hb dX10_nextToken_93 (by decide) (fun c9 => absurd c9 (by decide)) (fun _ => ?_)
              refine lv_aload_n hx hb dX10_nextToken_96 rfl (lv_at hl 0 rfl) ?_
              refine lv_lconst (v := 0) hx hb dX10_nextToken_97 (by decide) ?_
              refine va_put (D := (dC, dI)) (ci := 10) (v := .long 0) (ty := .long) (C := RX10) (T := TX10) (N := 39) hx hb hts inX10 tyX10 tyX10_ok nmX10 hown hK hP hD hS 0 rfl rfl 23 (by decide) lf160 (fun _ h9 => h9) rfl (by decide +kernel) rfl rfl (Nat.le_of_ble_eq_true rfl) dX10_nextToken_98 (fun H locs hP hD hS => ?_)
              have hP : va_P (dC, dI) vwCl (wMod cI cZ cQ b mday mdoo mdA mdB mfar mmar mtel mgai mfal mtop mstr mgho mfai mpto mwal mahd mahf mcho mbes mbyt mtxt mpos_0 mpos_0 0 0 0 mfau mrdm mrea mlin mlne mthg mord mbor mbsm mans mand manr mali) H := hP
              have hD : va_D A (wMod cI cZ cQ b mday mdoo mdA mdB mfar mmar mtel mgai mfal mtop mstr mgho mfai mpto mwal mahd mahf mcho mbes mbyt mtxt mpos_0 mpos_0 0 0 0 mfau mrdm mrea mlin mlne mthg mord mbor mbsm mans mand manr mali) := hD
              have L101 : ∀ (nn : Nat) (mpos_101 : Int32) (mtok_101 : Int64) (H : Heap) (locs : List Loc) (ls : Array Slot), (0 ≤ mpos_101.toInt ∧ mpos_101.toInt ≤ 160) → (mpos_101.toInt ≤ mbyt.toInt) → (mbyt.toInt - mpos_101.toInt).toNat < nn → va_P (dC, dI) vwCl (wMod cI cZ cQ b mday mdoo mdA mdB mfar mmar mtel mgai mfal mtop mstr mgho mfai mpto mwal mahd mahf mcho mbes mbyt mtxt mpos_101 mpos_0 mtok_101 0 0 mfau mrdm mrea mlin mlne mthg mord mbor mbsm mans mand manr mali) H → va_D A (wMod cI cZ cQ b mday mdoo mdA mdB mfar mmar mtel mgai mfal mtop mstr mgho mfai mpto mwal mahd mahf mcho mbes mbyt mtxt mpos_101 mpos_0 mtok_101 0 0 mfau mrdm mrea mlin mlne mthg mord mbor mbsm mans mand manr mali) → va_S A s.heap H locs → lv_has ls 1 [(0, .ref (b 39))] → W p l e (headSpec wsX10_nextToken { frames := 1, cells := 0, slots := 0, locals := 22 }).room s m ([.ref (b 39)] : List Value).toArray below meth c H locs 0 0 (MQ below (va_Qv (fun (u : US) => ((u.1 0 0).toInt ≤ mbyt.toInt) ∧ (0 ≤ (u.1 0 0).toInt ∧ (u.1 0 0).toInt ≤ 160)) (Bw (dC, dI) A (fun u : US => (wMod cI cZ cQ b mday mdoo mdA mdB mfar mmar mtel mgai mfal mtop mstr mgho mfai mpto mwal mahd mahf mcho mbes mbyt mtxt (u.1 0 0) (u.1 1 0) u.2.1 (u.1 3 0) (u.1 4 0) mfau mrdm mrea mlin mlne mthg mord mbor mbsm mans mand manr mali))) A) ([.ref (b 39)] : List Value).toArray s 0 0 A) (F0 m 101 ls []) := by
                intro nn
                induction nn with
                | zero =>
                  intro mpos_101 mtok_101 H locs ls r_mpos_101 i101_0 hm
                  exact absurd hm (Nat.not_lt_zero _)
                | succ nn ih101 =>
                  intro mpos_101 mtok_101 H locs ls r_mpos_101 i101_0 hm hP hD hS hl
                  refine lv_aload_n hx hb dX10_nextToken_101 rfl (lv_at hl 0 rfl) ?_
                  refine va_get (D := (dC, dI)) (ci := 10) (v := .int mpos_101) (C := RX10) (T := TX10) (N := 39) hx hb hts inX10 hown hK hP 0 rfl rfl 21 (by decide) lf146 (fun _ h9 => h9) rfl dX10_nextToken_102 ?_
                  refine lv_aload_n hx hb dX10_nextToken_105 rfl (lv_at hl 0 rfl) ?_
                  refine va_get (D := (dC, dI)) (ci := 10) (v := .int mbyt) (C := RX10) (T := TX10) (N := 39) hx hb hts inX10 hown hK hP 0 rfl rfl 19 (by decide) lf141 (fun _ h9 => h9) rfl dX10_nextToken_106 ?_
                  refine lv_icmp_ge (tgt := 191) hx hb dX10_nextToken_109 (by decide) (fun c58 => ?_) (fun c58 => ?_)
                  · have dc58 : mbyt.toInt ≤ mpos_101.toInt := leC rfl rfl c58
                    refine lv_aload_n hx hb dX10_nextToken_191 rfl (lv_at hl 0 rfl) ?_
                    refine lv_aload_n hx hb dX10_nextToken_192 rfl (lv_at hl 0 rfl) ?_
                    refine va_get (D := (dC, dI)) (ci := 10) (v := .int mpos_101) (C := RX10) (T := TX10) (N := 39) hx hb hts inX10 hown hK hP 0 rfl rfl 21 (by decide) lf146 (fun _ h9 => h9) rfl dX10_nextToken_193 ?_
                    refine lv_aload_n hx hb dX10_nextToken_196 rfl (lv_at hl 0 rfl) ?_
                    refine va_get (D := (dC, dI)) (ci := 10) (v := .int mpos_0) (C := RX10) (T := TX10) (N := 39) hx hb hts inX10 hown hK hP 0 rfl rfl 22 (by decide) lf149 (fun _ h9 => h9) rfl dX10_nextToken_197 ?_
                    refine lv_isub hx hb dX10_nextToken_200 ?_
                    have f59 : (mpos_101 - mpos_0).toInt = (mpos_101.toInt) - (mpos_0.toInt) := subC rfl rfl (by omega) (by omega)
                    refine lv_bipush (v := 9) hx hb dX10_nextToken_201 (by decide) ?_
                    refine lv_icmp_le (tgt := 212) hx hb dX10_nextToken_203 (by decide) (fun c60 => ?_) (fun c60 => ?_)
                    · have dc60 : (mpos_101.toInt) - (mpos_0.toInt) ≤ 9 := leC f59 (show (9 : Int32).toInt = 9 from rfl) c60
                      refine lv_aload_n hx hb dX10_nextToken_212 rfl (lv_at hl 0 rfl) ?_
                      refine va_get (D := (dC, dI)) (ci := 10) (v := .long mtok_101) (C := RX10) (T := TX10) (N := 39) hx hb hts inX10 hown hK hP 0 rfl rfl 23 (by decide) lf160 (fun _ h9 => h9) rfl dX10_nextToken_213 ?_
                      refine va_put (D := (dC, dI)) (ci := 10) (v := .long mtok_101) (ty := .long) (C := RX10) (T := TX10) (N := 39) hx hb hts inX10 tyX10 tyX10_ok nmX10 hown hK hP hD hS 0 rfl rfl 23 (by decide) lf160 (fun _ h9 => h9) rfl (by decide +kernel) rfl rfl (Nat.le_of_ble_eq_true rfl) dX10_nextToken_216 (fun H locs hP hD hS => ?_)
                      have hP : va_P (dC, dI) vwCl (wMod cI cZ cQ b mday mdoo mdA mdB mfar mmar mtel mgai mfal mtop mstr mgho mfai mpto mwal mahd mahf mcho mbes mbyt mtxt mpos_101 mpos_0 mtok_101 0 0 mfau mrdm mrea mlin mlne mthg mord mbor mbsm mans mand manr mali) H := hP
                      have hD : va_D A (wMod cI cZ cQ b mday mdoo mdA mdB mfar mmar mtel mgai mfal mtop mstr mgho mfai mpto mwal mahd mahf mcho mbes mbyt mtxt mpos_101 mpos_0 mtok_101 0 0 mfau mrdm mrea mlin mlne mthg mord mbor mbsm mans mand manr mali) := hD
                      refine lv_goto (tgt := 394) hx hb dX10_nextToken_219 (by decide) ?_
                      exact W.vret hx hb hr (fun tq ht hW => ⟨⟨(uS [(fun _ => mpos_101), (fun _ => mpos_0), (fun _ => 0), (fun _ => 0), (fun _ => 0)] mtok_101 (fun _ => 0)), rfl, ⟨(show mpos_101.toInt ≤ mbyt.toInt from by omega), r_mpos_101⟩, by rw [ht]; exact hP, hD⟩, hS.F ht⟩) hS.2.2 dX10_nextToken_394
                    · have dc60 : 9 < (mpos_101.toInt) - (mpos_0.toInt) := nleC f59 (show (9 : Int32).toInt = 9 from rfl) c60
                      refine lv_ldc2 (v := (-4)) hx hb hown (hts (.constantLong RX10 168 (-4)) (by decide +kernel)) dX10_nextToken_206 ?_
                      refine lv_goto (tgt := 216) hx hb dX10_nextToken_209 (by decide) ?_
                      refine va_put (D := (dC, dI)) (ci := 10) (v := .long (-4)) (ty := .long) (C := RX10) (T := TX10) (N := 39) hx hb hts inX10 tyX10 tyX10_ok nmX10 hown hK hP hD hS 0 rfl rfl 23 (by decide) lf160 (fun _ h9 => h9) rfl (by decide +kernel) rfl rfl (Nat.le_of_ble_eq_true rfl) dX10_nextToken_216 (fun H locs hP hD hS => ?_)
                      have hP : va_P (dC, dI) vwCl (wMod cI cZ cQ b mday mdoo mdA mdB mfar mmar mtel mgai mfal mtop mstr mgho mfai mpto mwal mahd mahf mcho mbes mbyt mtxt mpos_101 mpos_0 (-4) 0 0 mfau mrdm mrea mlin mlne mthg mord mbor mbsm mans mand manr mali) H := hP
                      have hD : va_D A (wMod cI cZ cQ b mday mdoo mdA mdB mfar mmar mtel mgai mfal mtop mstr mgho mfai mpto mwal mahd mahf mcho mbes mbyt mtxt mpos_101 mpos_0 (-4) 0 0 mfau mrdm mrea mlin mlne mthg mord mbor mbsm mans mand manr mali) := hD
                      refine lv_goto (tgt := 394) hx hb dX10_nextToken_219 (by decide) ?_
                      exact W.vret hx hb hr (fun tq ht hW => ⟨⟨(uS [(fun _ => mpos_101), (fun _ => mpos_0), (fun _ => 0), (fun _ => 0), (fun _ => 0)] (-4) (fun _ => 0)), rfl, ⟨(show mpos_101.toInt ≤ mbyt.toInt from by omega), r_mpos_101⟩, by rw [ht]; exact hP, hD⟩, hS.F ht⟩) hS.2.2 dX10_nextToken_394
                  · have dc58 : mpos_101.toInt < mbyt.toInt := nleC rfl rfl c58
                    refine lv_aload_n hx hb dX10_nextToken_112 rfl (lv_at hl 0 rfl) ?_
                    refine va_get (D := (dC, dI)) (ci := 10) (v := .ref (b 20)) (C := RX10) (T := TX10) (N := 39) hx hb hts inX10 hown hK hP 0 rfl rfl 20 (by decide) lf62 (fun _ h9 => h9) rfl dX10_nextToken_113 ?_
                    refine lv_aload_n hx hb dX10_nextToken_116 rfl (lv_at hl 0 rfl) ?_
                    refine va_get (D := (dC, dI)) (ci := 10) (v := .int mpos_101) (C := RX10) (T := TX10) (N := 39) hx hb hts inX10 hown hK hP 0 rfl rfl 21 (by decide) lf146 (fun _ h9 => h9) rfl dX10_nextToken_117 ?_
                    have b61 : vp_in mpos_101 160 := inC rfl (by omega) (by omega)
                    refine va_iald hx hb hK hP 16 0 rfl rfl b61 dX10_nextToken_120 ?_
                    refine lv_bipush (v := 97) hx hb dX10_nextToken_121 (by decide) ?_
                    refine lv_bipush (v := 122) hx hb dX10_nextToken_123 (by decide) ?_
                    refine rdS (As := [.int (mtxt mpos_101.toNatClampNeg), .int 97, .int 122]) (rest := []) ⟨hx, hb, hml, hown, hts⟩ (k_X10_in l dC dI cI cZ cQ (mtxt mpos_101.toNatClampNeg) (97 : Int32) (122 : Int32)) (va_cwS 3 hts gX10_nextToken_X10_in rfl rfl rfl (by decide +kernel) ⟨Nat.le_of_ble_eq_true rfl, Nat.le_of_ble_eq_true rfl⟩) hP hK hN [] rfl rfl hl.1 rfl (Nat.le_of_ble_eq_true rfl) dX10_nextToken_125 ⟨Nat.le_of_ble_eq_true rfl, Nat.le_of_ble_eq_true rfl⟩ (fun r62 h63 => ?_)
                    have h63 : ((((r62 = 1) ∧ ((97) ≤ (mtxt mpos_101.toNatClampNeg).toInt) ∧ ((mtxt mpos_101.toNatClampNeg).toInt ≤ (122))) ∨ ((r62 = 0) ∧ ((mtxt mpos_101.toNatClampNeg).toInt < (97) ∨ (122) < (mtxt mpos_101.toNatClampNeg).toInt)))) := h63
                    rcases h63 with (⟨rfl, h63_a0, h63_a1⟩ | ⟨rfl, h63_a0⟩)
                    · refine lv_if_eq (tgt := 191) hx hb dX10_nextToken_128 (by decide) (fun c9 => absurd c9 (by decide)) (fun _ => ?_)
                      refine lv_aload_n hx hb dX10_nextToken_131 rfl (lv_at hl 0 rfl) ?_
                      refine lv_aload_n hx hb dX10_nextToken_132 rfl (lv_at hl 0 rfl) ?_
                      refine va_get (D := (dC, dI)) (ci := 10) (v := .int mpos_101) (C := RX10) (T := TX10) (N := 39) hx hb hts inX10 hown hK hP 0 rfl rfl 21 (by decide) lf146 (fun _ h9 => h9) rfl dX10_nextToken_133 ?_
                      refine lv_aload_n hx hb dX10_nextToken_136 rfl (lv_at hl 0 rfl) ?_
                      refine va_get (D := (dC, dI)) (ci := 10) (v := .int mpos_0) (C := RX10) (T := TX10) (N := 39) hx hb hts inX10 hown hK hP 0 rfl rfl 22 (by decide) lf149 (fun _ h9 => h9) rfl dX10_nextToken_137 ?_
                      refine lv_isub hx hb dX10_nextToken_140 ?_
                      have f64 : (mpos_101 - mpos_0).toInt = (mpos_101.toInt) - (mpos_0.toInt) := subC rfl rfl (by omega) (by omega)
                      refine lv_bipush (v := 9) hx hb dX10_nextToken_141 (by decide) ?_
                      refine lv_icmp_ge (tgt := 172) hx hb dX10_nextToken_143 (by decide) (fun c65 => ?_) (fun c65 => ?_)
                      · have dc65 : 9 ≤ (mpos_101.toInt) - (mpos_0.toInt) := leC (show (9 : Int32).toInt = 9 from rfl) f64 c65
                        refine lv_ldc2 (v := (-4)) hx hb hown (hts (.constantLong RX10 168 (-4)) (by decide +kernel)) dX10_nextToken_172 ?_
                        refine va_put (D := (dC, dI)) (ci := 10) (v := .long (-4)) (ty := .long) (C := RX10) (T := TX10) (N := 39) hx hb hts inX10 tyX10 tyX10_ok nmX10 hown hK hP hD hS 0 rfl rfl 23 (by decide) lf160 (fun _ h9 => h9) rfl (by decide +kernel) rfl rfl (Nat.le_of_ble_eq_true rfl) dX10_nextToken_175 (fun H locs hP hD hS => ?_)
                        have hP : va_P (dC, dI) vwCl (wMod cI cZ cQ b mday mdoo mdA mdB mfar mmar mtel mgai mfal mtop mstr mgho mfai mpto mwal mahd mahf mcho mbes mbyt mtxt mpos_101 mpos_0 (-4) 0 0 mfau mrdm mrea mlin mlne mthg mord mbor mbsm mans mand manr mali) H := hP
                        have hD : va_D A (wMod cI cZ cQ b mday mdoo mdA mdB mfar mmar mtel mgai mfal mtop mstr mgho mfai mpto mwal mahd mahf mcho mbes mbyt mtxt mpos_101 mpos_0 (-4) 0 0 mfau mrdm mrea mlin mlne mthg mord mbor mbsm mans mand manr mali) := hD
                        refine lv_aload_n hx hb dX10_nextToken_178 rfl (lv_at hl 0 rfl) ?_
                        refine lv_dup hx hb dX10_nextToken_179 rfl ?_
                        refine va_get (D := (dC, dI)) (ci := 10) (v := .int mpos_101) (C := RX10) (T := TX10) (N := 39) hx hb hts inX10 hown hK hP 0 rfl rfl 21 (by decide) lf146 (fun _ h9 => h9) rfl dX10_nextToken_180 ?_
                        refine lv_iconst (v := 1) hx hb dX10_nextToken_183 (by decide) ?_
                        refine lv_iadd hx hb dX10_nextToken_184 ?_
                        have f66 : (mpos_101 + 1).toInt = (mpos_101.toInt) + (1) := addC rfl (show (1 : Int32).toInt = 1 from rfl) (by omega) (by omega)
                        refine lv_topi (fun x67 ex67 => ?_)
                        have ix67 : x67.toInt = (mpos_101.toInt) + (1) := by rw [ex67]; exact f66
                        refine va_put (D := (dC, dI)) (ci := 10) (v := .int x67) (ty := .int) (C := RX10) (T := TX10) (N := 39) hx hb hts inX10 tyX10 tyX10_ok nmX10 hown hK hP hD hS 0 rfl rfl 21 (by decide) lf146 (fun _ h9 => h9) rfl (by decide +kernel) rfl rfl (Nat.le_of_ble_eq_true rfl) dX10_nextToken_185 (fun H locs hP hD hS => ?_)
                        have g68 : 0 ≤ x67.toInt ∧ x67.toInt ≤ 160 := by rw [show x67.toInt = x67.toInt from rfl]; exact ⟨by omega, by omega⟩
                        have hP : va_P (dC, dI) vwCl (wMod cI cZ cQ b mday mdoo mdA mdB mfar mmar mtel mgai mfal mtop mstr mgho mfai mpto mwal mahd mahf mcho mbes mbyt mtxt x67 mpos_0 (-4) 0 0 mfau mrdm mrea mlin mlne mthg mord mbor mbsm mans mand manr mali) H := hP
                        have hD : va_D A (wMod cI cZ cQ b mday mdoo mdA mdB mfar mmar mtel mgai mfal mtop mstr mgho mfai mpto mwal mahd mahf mcho mbes mbyt mtxt x67 mpos_0 (-4) 0 0 mfau mrdm mrea mlin mlne mthg mord mbor mbsm mans mand manr mali) := hD
                        refine lv_goto (tgt := 101) hx hb dX10_nextToken_188 (by decide) ?_
                        exact ih101 x67 (-4) _ _ _ g68 (by omega) (by omega) hP hD hS (lv_sub hl [0] rfl)
                      · have dc65 : (mpos_101.toInt) - (mpos_0.toInt) < 9 := nleC (show (9 : Int32).toInt = 9 from rfl) f64 c65
                        refine lv_ldc2 (v := 27) hx hb hown (hts (.constantLong RX10 164 (27)) (by decide +kernel)) dX10_nextToken_146 ?_
                        refine lv_aload_n hx hb dX10_nextToken_149 rfl (lv_at hl 0 rfl) ?_
                        refine va_get (D := (dC, dI)) (ci := 10) (v := .long mtok_101) (C := RX10) (T := TX10) (N := 39) hx hb hts inX10 hown hK hP 0 rfl rfl 23 (by decide) lf160 (fun _ h9 => h9) rfl dX10_nextToken_150 ?_
                        refine lv_lmul hx hb dX10_nextToken_153 ?_
                        refine lv_aload_n hx hb dX10_nextToken_154 rfl (lv_at hl 0 rfl) ?_
                        refine va_get (D := (dC, dI)) (ci := 10) (v := .ref (b 20)) (C := RX10) (T := TX10) (N := 39) hx hb hts inX10 hown hK hP 0 rfl rfl 20 (by decide) lf62 (fun _ h9 => h9) rfl dX10_nextToken_155 ?_
                        refine lv_aload_n hx hb dX10_nextToken_158 rfl (lv_at hl 0 rfl) ?_
                        refine va_get (D := (dC, dI)) (ci := 10) (v := .int mpos_101) (C := RX10) (T := TX10) (N := 39) hx hb hts inX10 hown hK hP 0 rfl rfl 21 (by decide) lf146 (fun _ h9 => h9) rfl dX10_nextToken_159 ?_
                        have b69 : vp_in mpos_101 160 := inC rfl (by omega) (by omega)
                        refine va_iald hx hb hK hP 16 0 rfl rfl b69 dX10_nextToken_162 ?_
                        refine lv_i2l hx hb dX10_nextToken_163 rfl ?_
                        refine lv_ladd hx hb dX10_nextToken_164 ?_
                        refine lv_ldc2 (v := 96) hx hb hown (hts (.constantLong RX10 166 (96)) (by decide +kernel)) dX10_nextToken_165 ?_
                        refine lv_lsub hx hb dX10_nextToken_168 ?_
                        refine lv_goto (tgt := 175) hx hb dX10_nextToken_169 (by decide) ?_
                        refine va_put (D := (dC, dI)) (ci := 10) (v := .long (((27 * mtok_101) + ((mtxt mpos_101.toNatClampNeg).toInt64)) - 96)) (ty := .long) (C := RX10) (T := TX10) (N := 39) hx hb hts inX10 tyX10 tyX10_ok nmX10 hown hK hP hD hS 0 rfl rfl 23 (by decide) lf160 (fun _ h9 => h9) rfl (by decide +kernel) rfl rfl (Nat.le_of_ble_eq_true rfl) dX10_nextToken_175 (fun H locs hP hD hS => ?_)
                        have hP : va_P (dC, dI) vwCl (wMod cI cZ cQ b mday mdoo mdA mdB mfar mmar mtel mgai mfal mtop mstr mgho mfai mpto mwal mahd mahf mcho mbes mbyt mtxt mpos_101 mpos_0 (((27 * mtok_101) + ((mtxt mpos_101.toNatClampNeg).toInt64)) - 96) 0 0 mfau mrdm mrea mlin mlne mthg mord mbor mbsm mans mand manr mali) H := hP
                        have hD : va_D A (wMod cI cZ cQ b mday mdoo mdA mdB mfar mmar mtel mgai mfal mtop mstr mgho mfai mpto mwal mahd mahf mcho mbes mbyt mtxt mpos_101 mpos_0 (((27 * mtok_101) + ((mtxt mpos_101.toNatClampNeg).toInt64)) - 96) 0 0 mfau mrdm mrea mlin mlne mthg mord mbor mbsm mans mand manr mali) := hD
                        refine lv_aload_n hx hb dX10_nextToken_178 rfl (lv_at hl 0 rfl) ?_
                        refine lv_dup hx hb dX10_nextToken_179 rfl ?_
                        refine va_get (D := (dC, dI)) (ci := 10) (v := .int mpos_101) (C := RX10) (T := TX10) (N := 39) hx hb hts inX10 hown hK hP 0 rfl rfl 21 (by decide) lf146 (fun _ h9 => h9) rfl dX10_nextToken_180 ?_
                        refine lv_iconst (v := 1) hx hb dX10_nextToken_183 (by decide) ?_
                        refine lv_iadd hx hb dX10_nextToken_184 ?_
                        have f70 : (mpos_101 + 1).toInt = (mpos_101.toInt) + (1) := addC rfl (show (1 : Int32).toInt = 1 from rfl) (by omega) (by omega)
                        refine lv_topi (fun x71 ex71 => ?_)
                        have ix71 : x71.toInt = (mpos_101.toInt) + (1) := by rw [ex71]; exact f70
                        refine va_put (D := (dC, dI)) (ci := 10) (v := .int x71) (ty := .int) (C := RX10) (T := TX10) (N := 39) hx hb hts inX10 tyX10 tyX10_ok nmX10 hown hK hP hD hS 0 rfl rfl 21 (by decide) lf146 (fun _ h9 => h9) rfl (by decide +kernel) rfl rfl (Nat.le_of_ble_eq_true rfl) dX10_nextToken_185 (fun H locs hP hD hS => ?_)
                        have g72 : 0 ≤ x71.toInt ∧ x71.toInt ≤ 160 := by rw [show x71.toInt = x71.toInt from rfl]; exact ⟨by omega, by omega⟩
                        have hP : va_P (dC, dI) vwCl (wMod cI cZ cQ b mday mdoo mdA mdB mfar mmar mtel mgai mfal mtop mstr mgho mfai mpto mwal mahd mahf mcho mbes mbyt mtxt x71 mpos_0 (((27 * mtok_101) + ((mtxt mpos_101.toNatClampNeg).toInt64)) - 96) 0 0 mfau mrdm mrea mlin mlne mthg mord mbor mbsm mans mand manr mali) H := hP
                        have hD : va_D A (wMod cI cZ cQ b mday mdoo mdA mdB mfar mmar mtel mgai mfal mtop mstr mgho mfai mpto mwal mahd mahf mcho mbes mbyt mtxt x71 mpos_0 (((27 * mtok_101) + ((mtxt mpos_101.toNatClampNeg).toInt64)) - 96) 0 0 mfau mrdm mrea mlin mlne mthg mord mbor mbsm mans mand manr mali) := hD
                        refine lv_goto (tgt := 101) hx hb dX10_nextToken_188 (by decide) ?_
                        exact ih101 x71 (((27 * mtok_101) + ((mtxt mpos_101.toNatClampNeg).toInt64)) - 96) _ _ _ g72 (by omega) (by omega) hP hD hS (lv_sub hl [0] rfl)
                    · refine lv_if_eq (tgt := 191) hx hb dX10_nextToken_128 (by decide) (fun _ => ?_) (fun c9 => absurd (by decide) c9)
                      refine lv_aload_n hx hb dX10_nextToken_191 rfl (lv_at hl 0 rfl) ?_
                      refine lv_aload_n hx hb dX10_nextToken_192 rfl (lv_at hl 0 rfl) ?_
                      refine va_get (D := (dC, dI)) (ci := 10) (v := .int mpos_101) (C := RX10) (T := TX10) (N := 39) hx hb hts inX10 hown hK hP 0 rfl rfl 21 (by decide) lf146 (fun _ h9 => h9) rfl dX10_nextToken_193 ?_
                      refine lv_aload_n hx hb dX10_nextToken_196 rfl (lv_at hl 0 rfl) ?_
                      refine va_get (D := (dC, dI)) (ci := 10) (v := .int mpos_0) (C := RX10) (T := TX10) (N := 39) hx hb hts inX10 hown hK hP 0 rfl rfl 22 (by decide) lf149 (fun _ h9 => h9) rfl dX10_nextToken_197 ?_
                      refine lv_isub hx hb dX10_nextToken_200 ?_
                      have f73 : (mpos_101 - mpos_0).toInt = (mpos_101.toInt) - (mpos_0.toInt) := subC rfl rfl (by omega) (by omega)
                      refine lv_bipush (v := 9) hx hb dX10_nextToken_201 (by decide) ?_
                      refine lv_icmp_le (tgt := 212) hx hb dX10_nextToken_203 (by decide) (fun c74 => ?_) (fun c74 => ?_)
                      · have dc74 : (mpos_101.toInt) - (mpos_0.toInt) ≤ 9 := leC f73 (show (9 : Int32).toInt = 9 from rfl) c74
                        refine lv_aload_n hx hb dX10_nextToken_212 rfl (lv_at hl 0 rfl) ?_
                        refine va_get (D := (dC, dI)) (ci := 10) (v := .long mtok_101) (C := RX10) (T := TX10) (N := 39) hx hb hts inX10 hown hK hP 0 rfl rfl 23 (by decide) lf160 (fun _ h9 => h9) rfl dX10_nextToken_213 ?_
                        refine va_put (D := (dC, dI)) (ci := 10) (v := .long mtok_101) (ty := .long) (C := RX10) (T := TX10) (N := 39) hx hb hts inX10 tyX10 tyX10_ok nmX10 hown hK hP hD hS 0 rfl rfl 23 (by decide) lf160 (fun _ h9 => h9) rfl (by decide +kernel) rfl rfl (Nat.le_of_ble_eq_true rfl) dX10_nextToken_216 (fun H locs hP hD hS => ?_)
                        have hP : va_P (dC, dI) vwCl (wMod cI cZ cQ b mday mdoo mdA mdB mfar mmar mtel mgai mfal mtop mstr mgho mfai mpto mwal mahd mahf mcho mbes mbyt mtxt mpos_101 mpos_0 mtok_101 0 0 mfau mrdm mrea mlin mlne mthg mord mbor mbsm mans mand manr mali) H := hP
                        have hD : va_D A (wMod cI cZ cQ b mday mdoo mdA mdB mfar mmar mtel mgai mfal mtop mstr mgho mfai mpto mwal mahd mahf mcho mbes mbyt mtxt mpos_101 mpos_0 mtok_101 0 0 mfau mrdm mrea mlin mlne mthg mord mbor mbsm mans mand manr mali) := hD
                        refine lv_goto (tgt := 394) hx hb dX10_nextToken_219 (by decide) ?_
                        exact W.vret hx hb hr (fun tq ht hW => ⟨⟨(uS [(fun _ => mpos_101), (fun _ => mpos_0), (fun _ => 0), (fun _ => 0), (fun _ => 0)] mtok_101 (fun _ => 0)), rfl, ⟨(show mpos_101.toInt ≤ mbyt.toInt from by omega), r_mpos_101⟩, by rw [ht]; exact hP, hD⟩, hS.F ht⟩) hS.2.2 dX10_nextToken_394
                      · have dc74 : 9 < (mpos_101.toInt) - (mpos_0.toInt) := nleC f73 (show (9 : Int32).toInt = 9 from rfl) c74
                        refine lv_ldc2 (v := (-4)) hx hb hown (hts (.constantLong RX10 168 (-4)) (by decide +kernel)) dX10_nextToken_206 ?_
                        refine lv_goto (tgt := 216) hx hb dX10_nextToken_209 (by decide) ?_
                        refine va_put (D := (dC, dI)) (ci := 10) (v := .long (-4)) (ty := .long) (C := RX10) (T := TX10) (N := 39) hx hb hts inX10 tyX10 tyX10_ok nmX10 hown hK hP hD hS 0 rfl rfl 23 (by decide) lf160 (fun _ h9 => h9) rfl (by decide +kernel) rfl rfl (Nat.le_of_ble_eq_true rfl) dX10_nextToken_216 (fun H locs hP hD hS => ?_)
                        have hP : va_P (dC, dI) vwCl (wMod cI cZ cQ b mday mdoo mdA mdB mfar mmar mtel mgai mfal mtop mstr mgho mfai mpto mwal mahd mahf mcho mbes mbyt mtxt mpos_101 mpos_0 (-4) 0 0 mfau mrdm mrea mlin mlne mthg mord mbor mbsm mans mand manr mali) H := hP
                        have hD : va_D A (wMod cI cZ cQ b mday mdoo mdA mdB mfar mmar mtel mgai mfal mtop mstr mgho mfai mpto mwal mahd mahf mcho mbes mbyt mtxt mpos_101 mpos_0 (-4) 0 0 mfau mrdm mrea mlin mlne mthg mord mbor mbsm mans mand manr mali) := hD
                        refine lv_goto (tgt := 394) hx hb dX10_nextToken_219 (by decide) ?_
                        exact W.vret hx hb hr (fun tq ht hW => ⟨⟨(uS [(fun _ => mpos_101), (fun _ => mpos_0), (fun _ => 0), (fun _ => 0), (fun _ => 0)] (-4) (fun _ => 0)), rfl, ⟨(show mpos_101.toInt ≤ mbyt.toInt from by omega), r_mpos_101⟩, by rw [ht]; exact hP, hD⟩, hS.F ht⟩) hS.2.2 dX10_nextToken_394
              exact L101 _ mpos_0 0 _ _ _ r_mpos_0 (by omega) (Nat.lt_succ_self _) hP hD hS (lv_sub hl [0] rfl)
            · refine lv_if_eq (tgt := 222) hx hb dX10_nextToken_93 (by decide) (fun _ => ?_) (fun c9 => absurd (by decide) c9)
              refine lv_aload_n hx hb dX10_nextToken_222 rfl (lv_at hl 0 rfl) ?_
              refine va_get (D := (dC, dI)) (ci := 10) (v := .ref (b 20)) (C := RX10) (T := TX10) (N := 39) hx hb hts inX10 hown hK hP 0 rfl rfl 20 (by decide) lf62 (fun _ h9 => h9) rfl dX10_nextToken_223 ?_
              refine lv_aload_n hx hb dX10_nextToken_226 rfl (lv_at hl 0 rfl) ?_
              refine va_get (D := (dC, dI)) (ci := 10) (v := .int mpos_0) (C := RX10) (T := TX10) (N := 39) hx hb hts inX10 hown hK hP 0 rfl rfl 21 (by decide) lf146 (fun _ h9 => h9) rfl dX10_nextToken_227 ?_
              have b75 : vp_in mpos_0 160 := inC rfl (by omega) (by omega)
              refine va_iald hx hb hK hP 16 0 rfl rfl b75 dX10_nextToken_230 ?_
              refine lv_bipush (v := 48) hx hb dX10_nextToken_231 (by decide) ?_
              refine lv_bipush (v := 57) hx hb dX10_nextToken_233 (by decide) ?_
              refine rdS (As := [.int (mtxt mpos_0.toNatClampNeg), .int 48, .int 57]) (rest := []) ⟨hx, hb, hml, hown, hts⟩ (k_X10_in l dC dI cI cZ cQ (mtxt mpos_0.toNatClampNeg) (48 : Int32) (57 : Int32)) (va_cwS 3 hts gX10_nextToken_X10_in rfl rfl rfl (by decide +kernel) ⟨Nat.le_of_ble_eq_true rfl, Nat.le_of_ble_eq_true rfl⟩) hP hK hN [] rfl rfl hl.1 rfl (Nat.le_of_ble_eq_true rfl) dX10_nextToken_235 ⟨Nat.le_of_ble_eq_true rfl, Nat.le_of_ble_eq_true rfl⟩ (fun r76 h77 => ?_)
              have h77 : ((((r76 = 1) ∧ ((48) ≤ (mtxt mpos_0.toNatClampNeg).toInt) ∧ ((mtxt mpos_0.toNatClampNeg).toInt ≤ (57))) ∨ ((r76 = 0) ∧ ((mtxt mpos_0.toNatClampNeg).toInt < (48) ∨ (57) < (mtxt mpos_0.toNatClampNeg).toInt)))) := h77
              rcases h77 with (⟨rfl, h77_a0, h77_a1⟩ | ⟨rfl, h77_a0⟩)
              · refine lv_if_eq (tgt := 357) hx hb dX10_nextToken_238 (by decide) (fun c9 => absurd c9 (by decide)) (fun _ => ?_)
                have L241 : ∀ (nn : Nat) (mpos_241 : Int32) (mdig_241 : Int32) (mnum_241 : Int32) (H : Heap) (locs : List Loc) (ls : Array Slot), (0 ≤ mpos_241.toInt ∧ mpos_241.toInt ≤ 160) → (mpos_241.toInt ≤ mbyt.toInt) → (mbyt.toInt - mpos_241.toInt).toNat < nn → va_P (dC, dI) vwCl (wMod cI cZ cQ b mday mdoo mdA mdB mfar mmar mtel mgai mfal mtop mstr mgho mfai mpto mwal mahd mahf mcho mbes mbyt mtxt mpos_241 mpos_0 mtok mdig_241 mnum_241 mfau mrdm mrea mlin mlne mthg mord mbor mbsm mans mand manr mali) H → va_D A (wMod cI cZ cQ b mday mdoo mdA mdB mfar mmar mtel mgai mfal mtop mstr mgho mfai mpto mwal mahd mahf mcho mbes mbyt mtxt mpos_241 mpos_0 mtok mdig_241 mnum_241 mfau mrdm mrea mlin mlne mthg mord mbor mbsm mans mand manr mali) → va_S A s.heap H locs → lv_has ls 1 [(0, .ref (b 39))] → W p l e (headSpec wsX10_nextToken { frames := 1, cells := 0, slots := 0, locals := 22 }).room s m ([.ref (b 39)] : List Value).toArray below meth c H locs 0 0 (MQ below (va_Qv (fun (u : US) => ((u.1 0 0).toInt ≤ mbyt.toInt) ∧ (0 ≤ (u.1 0 0).toInt ∧ (u.1 0 0).toInt ≤ 160)) (Bw (dC, dI) A (fun u : US => (wMod cI cZ cQ b mday mdoo mdA mdB mfar mmar mtel mgai mfal mtop mstr mgho mfai mpto mwal mahd mahf mcho mbes mbyt mtxt (u.1 0 0) (u.1 1 0) u.2.1 (u.1 3 0) (u.1 4 0) mfau mrdm mrea mlin mlne mthg mord mbor mbsm mans mand manr mali))) A) ([.ref (b 39)] : List Value).toArray s 0 0 A) (F0 m 241 ls []) := by
                  intro nn
                  induction nn with
                  | zero =>
                    intro mpos_241 mdig_241 mnum_241 H locs ls r_mpos_241 i241_0 hm
                    exact absurd hm (Nat.not_lt_zero _)
                  | succ nn ih241 =>
                    intro mpos_241 mdig_241 mnum_241 H locs ls r_mpos_241 i241_0 hm hP hD hS hl
                    refine lv_aload_n hx hb dX10_nextToken_241 rfl (lv_at hl 0 rfl) ?_
                    refine va_get (D := (dC, dI)) (ci := 10) (v := .int mpos_241) (C := RX10) (T := TX10) (N := 39) hx hb hts inX10 hown hK hP 0 rfl rfl 21 (by decide) lf146 (fun _ h9 => h9) rfl dX10_nextToken_242 ?_
                    refine lv_aload_n hx hb dX10_nextToken_245 rfl (lv_at hl 0 rfl) ?_
                    refine va_get (D := (dC, dI)) (ci := 10) (v := .int mbyt) (C := RX10) (T := TX10) (N := 39) hx hb hts inX10 hown hK hP 0 rfl rfl 19 (by decide) lf141 (fun _ h9 => h9) rfl dX10_nextToken_246 ?_
                    refine lv_icmp_ge (tgt := 333) hx hb dX10_nextToken_249 (by decide) (fun c78 => ?_) (fun c78 => ?_)
                    · have dc78 : mbyt.toInt ≤ mpos_241.toInt := leC rfl rfl c78
                      refine lv_aload_n hx hb dX10_nextToken_333 rfl (lv_at hl 0 rfl) ?_
                      refine lv_aload_n hx hb dX10_nextToken_334 rfl (lv_at hl 0 rfl) ?_
                      refine va_get (D := (dC, dI)) (ci := 10) (v := .int mdig_241) (C := RX10) (T := TX10) (N := 39) hx hb hts inX10 hown hK hP 0 rfl rfl 24 (by decide) lf152 (fun _ h9 => h9) rfl dX10_nextToken_335 ?_
                      refine lv_iconst (v := 2) hx hb dX10_nextToken_338 (by decide) ?_
                      refine lv_icmp_le (tgt := 348) hx hb dX10_nextToken_339 (by decide) (fun c79 => ?_) (fun c79 => ?_)
                      · have dc79 : mdig_241.toInt ≤ 2 := leC rfl (show (2 : Int32).toInt = 2 from rfl) c79
                        refine lv_ldc2 (v := (-1)) hx hb hown (hts (.constantLong RX10 170 (-1)) (by decide +kernel)) dX10_nextToken_348 ?_
                        refine va_put (D := (dC, dI)) (ci := 10) (v := .long (-1)) (ty := .long) (C := RX10) (T := TX10) (N := 39) hx hb hts inX10 tyX10 tyX10_ok nmX10 hown hK hP hD hS 0 rfl rfl 23 (by decide) lf160 (fun _ h9 => h9) rfl (by decide +kernel) rfl rfl (Nat.le_of_ble_eq_true rfl) dX10_nextToken_351 (fun H locs hP hD hS => ?_)
                        have hP : va_P (dC, dI) vwCl (wMod cI cZ cQ b mday mdoo mdA mdB mfar mmar mtel mgai mfal mtop mstr mgho mfai mpto mwal mahd mahf mcho mbes mbyt mtxt mpos_241 mpos_0 (-1) mdig_241 mnum_241 mfau mrdm mrea mlin mlne mthg mord mbor mbsm mans mand manr mali) H := hP
                        have hD : va_D A (wMod cI cZ cQ b mday mdoo mdA mdB mfar mmar mtel mgai mfal mtop mstr mgho mfai mpto mwal mahd mahf mcho mbes mbyt mtxt mpos_241 mpos_0 (-1) mdig_241 mnum_241 mfau mrdm mrea mlin mlne mthg mord mbor mbsm mans mand manr mali) := hD
                        refine lv_goto (tgt := 394) hx hb dX10_nextToken_354 (by decide) ?_
                        exact W.vret hx hb hr (fun tq ht hW => ⟨⟨(uS [(fun _ => mpos_241), (fun _ => mpos_0), (fun _ => 0), (fun _ => mdig_241), (fun _ => mnum_241)] (-1) (fun _ => 0)), rfl, ⟨(show mpos_241.toInt ≤ mbyt.toInt from by omega), r_mpos_241⟩, by rw [ht]; exact hP, hD⟩, hS.F ht⟩) hS.2.2 dX10_nextToken_394
                      · have dc79 : 2 < mdig_241.toInt := nleC rfl (show (2 : Int32).toInt = 2 from rfl) c79
                        refine lv_ldc2 (v := (-4)) hx hb hown (hts (.constantLong RX10 168 (-4)) (by decide +kernel)) dX10_nextToken_342 ?_
                        refine lv_goto (tgt := 351) hx hb dX10_nextToken_345 (by decide) ?_
                        refine va_put (D := (dC, dI)) (ci := 10) (v := .long (-4)) (ty := .long) (C := RX10) (T := TX10) (N := 39) hx hb hts inX10 tyX10 tyX10_ok nmX10 hown hK hP hD hS 0 rfl rfl 23 (by decide) lf160 (fun _ h9 => h9) rfl (by decide +kernel) rfl rfl (Nat.le_of_ble_eq_true rfl) dX10_nextToken_351 (fun H locs hP hD hS => ?_)
                        have hP : va_P (dC, dI) vwCl (wMod cI cZ cQ b mday mdoo mdA mdB mfar mmar mtel mgai mfal mtop mstr mgho mfai mpto mwal mahd mahf mcho mbes mbyt mtxt mpos_241 mpos_0 (-4) mdig_241 mnum_241 mfau mrdm mrea mlin mlne mthg mord mbor mbsm mans mand manr mali) H := hP
                        have hD : va_D A (wMod cI cZ cQ b mday mdoo mdA mdB mfar mmar mtel mgai mfal mtop mstr mgho mfai mpto mwal mahd mahf mcho mbes mbyt mtxt mpos_241 mpos_0 (-4) mdig_241 mnum_241 mfau mrdm mrea mlin mlne mthg mord mbor mbsm mans mand manr mali) := hD
                        refine lv_goto (tgt := 394) hx hb dX10_nextToken_354 (by decide) ?_
                        exact W.vret hx hb hr (fun tq ht hW => ⟨⟨(uS [(fun _ => mpos_241), (fun _ => mpos_0), (fun _ => 0), (fun _ => mdig_241), (fun _ => mnum_241)] (-4) (fun _ => 0)), rfl, ⟨(show mpos_241.toInt ≤ mbyt.toInt from by omega), r_mpos_241⟩, by rw [ht]; exact hP, hD⟩, hS.F ht⟩) hS.2.2 dX10_nextToken_394
                    · have dc78 : mpos_241.toInt < mbyt.toInt := nleC rfl rfl c78
                      refine lv_aload_n hx hb dX10_nextToken_252 rfl (lv_at hl 0 rfl) ?_
                      refine va_get (D := (dC, dI)) (ci := 10) (v := .ref (b 20)) (C := RX10) (T := TX10) (N := 39) hx hb hts inX10 hown hK hP 0 rfl rfl 20 (by decide) lf62 (fun _ h9 => h9) rfl dX10_nextToken_253 ?_
                      refine lv_aload_n hx hb dX10_nextToken_256 rfl (lv_at hl 0 rfl) ?_
                      refine va_get (D := (dC, dI)) (ci := 10) (v := .int mpos_241) (C := RX10) (T := TX10) (N := 39) hx hb hts inX10 hown hK hP 0 rfl rfl 21 (by decide) lf146 (fun _ h9 => h9) rfl dX10_nextToken_257 ?_
                      have b80 : vp_in mpos_241 160 := inC rfl (by omega) (by omega)
                      refine va_iald hx hb hK hP 16 0 rfl rfl b80 dX10_nextToken_260 ?_
                      refine lv_bipush (v := 48) hx hb dX10_nextToken_261 (by decide) ?_
                      refine lv_bipush (v := 57) hx hb dX10_nextToken_263 (by decide) ?_
                      refine rdS (As := [.int (mtxt mpos_241.toNatClampNeg), .int 48, .int 57]) (rest := []) ⟨hx, hb, hml, hown, hts⟩ (k_X10_in l dC dI cI cZ cQ (mtxt mpos_241.toNatClampNeg) (48 : Int32) (57 : Int32)) (va_cwS 3 hts gX10_nextToken_X10_in rfl rfl rfl (by decide +kernel) ⟨Nat.le_of_ble_eq_true rfl, Nat.le_of_ble_eq_true rfl⟩) hP hK hN [] rfl rfl hl.1 rfl (Nat.le_of_ble_eq_true rfl) dX10_nextToken_265 ⟨Nat.le_of_ble_eq_true rfl, Nat.le_of_ble_eq_true rfl⟩ (fun r81 h82 => ?_)
                      have h82 : ((((r81 = 1) ∧ ((48) ≤ (mtxt mpos_241.toNatClampNeg).toInt) ∧ ((mtxt mpos_241.toNatClampNeg).toInt ≤ (57))) ∨ ((r81 = 0) ∧ ((mtxt mpos_241.toNatClampNeg).toInt < (48) ∨ (57) < (mtxt mpos_241.toNatClampNeg).toInt)))) := h82
                      rcases h82 with (⟨rfl, h82_a0, h82_a1⟩ | ⟨rfl, h82_a0⟩)
                      · refine lv_if_eq (tgt := 333) hx hb dX10_nextToken_268 (by decide) (fun c9 => absurd c9 (by decide)) (fun _ => ?_)
                        refine lv_aload_n hx hb dX10_nextToken_271 rfl (lv_at hl 0 rfl) ?_
                        refine lv_aload_n hx hb dX10_nextToken_272 rfl (lv_at hl 0 rfl) ?_
                        refine va_get (D := (dC, dI)) (ci := 10) (v := .int mdig_241) (C := RX10) (T := TX10) (N := 39) hx hb hts inX10 hown hK hP 0 rfl rfl 24 (by decide) lf152 (fun _ h9 => h9) rfl dX10_nextToken_273 ?_
                        refine lv_iconst (v := 2) hx hb dX10_nextToken_276 (by decide) ?_
                        refine lv_icmp_ge (tgt := 303) hx hb dX10_nextToken_277 (by decide) (fun c83 => ?_) (fun c83 => ?_)
                        · have dc83 : 2 ≤ mdig_241.toInt := leC (show (2 : Int32).toInt = 2 from rfl) rfl c83
                          refine lv_aload_n hx hb dX10_nextToken_303 rfl (lv_at hl 0 rfl) ?_
                          refine va_get (D := (dC, dI)) (ci := 10) (v := .int mnum_241) (C := RX10) (T := TX10) (N := 39) hx hb hts inX10 hown hK hP 0 rfl rfl 25 (by decide) lf155 (fun _ h9 => h9) rfl dX10_nextToken_304 ?_
                          refine va_put (D := (dC, dI)) (ci := 10) (v := .int mnum_241) (ty := .int) (C := RX10) (T := TX10) (N := 39) hx hb hts inX10 tyX10 tyX10_ok nmX10 hown hK hP hD hS 0 rfl rfl 25 (by decide) lf155 (fun _ h9 => h9) rfl (by decide +kernel) rfl rfl (Nat.le_of_ble_eq_true rfl) dX10_nextToken_307 (fun H locs hP hD hS => ?_)
                          have hP : va_P (dC, dI) vwCl (wMod cI cZ cQ b mday mdoo mdA mdB mfar mmar mtel mgai mfal mtop mstr mgho mfai mpto mwal mahd mahf mcho mbes mbyt mtxt mpos_241 mpos_0 mtok mdig_241 mnum_241 mfau mrdm mrea mlin mlne mthg mord mbor mbsm mans mand manr mali) H := hP
                          have hD : va_D A (wMod cI cZ cQ b mday mdoo mdA mdB mfar mmar mtel mgai mfal mtop mstr mgho mfai mpto mwal mahd mahf mcho mbes mbyt mtxt mpos_241 mpos_0 mtok mdig_241 mnum_241 mfau mrdm mrea mlin mlne mthg mord mbor mbsm mans mand manr mali) := hD
                          refine lv_aload_n hx hb dX10_nextToken_310 rfl (lv_at hl 0 rfl) ?_
                          refine lv_dup hx hb dX10_nextToken_311 rfl ?_
                          refine va_get (D := (dC, dI)) (ci := 10) (v := .int mdig_241) (C := RX10) (T := TX10) (N := 39) hx hb hts inX10 hown hK hP 0 rfl rfl 24 (by decide) lf152 (fun _ h9 => h9) rfl dX10_nextToken_312 ?_
                          refine lv_iconst (v := 1) hx hb dX10_nextToken_315 (by decide) ?_
                          refine lv_iadd hx hb dX10_nextToken_316 ?_
                          refine lv_topi (fun x84 ex84 => ?_)
                          have ix84 : x84.toInt = (mdig_241 + 1).toInt := by rw [ex84]
                          refine va_put (D := (dC, dI)) (ci := 10) (v := .int x84) (ty := .int) (C := RX10) (T := TX10) (N := 39) hx hb hts inX10 tyX10 tyX10_ok nmX10 hown hK hP hD hS 0 rfl rfl 24 (by decide) lf152 (fun _ h9 => h9) rfl (by decide +kernel) rfl rfl (Nat.le_of_ble_eq_true rfl) dX10_nextToken_317 (fun H locs hP hD hS => ?_)
                          have hP : va_P (dC, dI) vwCl (wMod cI cZ cQ b mday mdoo mdA mdB mfar mmar mtel mgai mfal mtop mstr mgho mfai mpto mwal mahd mahf mcho mbes mbyt mtxt mpos_241 mpos_0 mtok x84 mnum_241 mfau mrdm mrea mlin mlne mthg mord mbor mbsm mans mand manr mali) H := hP
                          have hD : va_D A (wMod cI cZ cQ b mday mdoo mdA mdB mfar mmar mtel mgai mfal mtop mstr mgho mfai mpto mwal mahd mahf mcho mbes mbyt mtxt mpos_241 mpos_0 mtok x84 mnum_241 mfau mrdm mrea mlin mlne mthg mord mbor mbsm mans mand manr mali) := hD
                          refine lv_aload_n hx hb dX10_nextToken_320 rfl (lv_at hl 0 rfl) ?_
                          refine lv_dup hx hb dX10_nextToken_321 rfl ?_
                          refine va_get (D := (dC, dI)) (ci := 10) (v := .int mpos_241) (C := RX10) (T := TX10) (N := 39) hx hb hts inX10 hown hK hP 0 rfl rfl 21 (by decide) lf146 (fun _ h9 => h9) rfl dX10_nextToken_322 ?_
                          refine lv_iconst (v := 1) hx hb dX10_nextToken_325 (by decide) ?_
                          refine lv_iadd hx hb dX10_nextToken_326 ?_
                          have f85 : (mpos_241 + 1).toInt = (mpos_241.toInt) + (1) := addC rfl (show (1 : Int32).toInt = 1 from rfl) (by omega) (by omega)
                          refine lv_topi (fun x86 ex86 => ?_)
                          have ix86 : x86.toInt = (mpos_241.toInt) + (1) := by rw [ex86]; exact f85
                          refine va_put (D := (dC, dI)) (ci := 10) (v := .int x86) (ty := .int) (C := RX10) (T := TX10) (N := 39) hx hb hts inX10 tyX10 tyX10_ok nmX10 hown hK hP hD hS 0 rfl rfl 21 (by decide) lf146 (fun _ h9 => h9) rfl (by decide +kernel) rfl rfl (Nat.le_of_ble_eq_true rfl) dX10_nextToken_327 (fun H locs hP hD hS => ?_)
                          have g87 : 0 ≤ x86.toInt ∧ x86.toInt ≤ 160 := by rw [show x86.toInt = x86.toInt from rfl]; exact ⟨by omega, by omega⟩
                          have hP : va_P (dC, dI) vwCl (wMod cI cZ cQ b mday mdoo mdA mdB mfar mmar mtel mgai mfal mtop mstr mgho mfai mpto mwal mahd mahf mcho mbes mbyt mtxt x86 mpos_0 mtok x84 mnum_241 mfau mrdm mrea mlin mlne mthg mord mbor mbsm mans mand manr mali) H := hP
                          have hD : va_D A (wMod cI cZ cQ b mday mdoo mdA mdB mfar mmar mtel mgai mfal mtop mstr mgho mfai mpto mwal mahd mahf mcho mbes mbyt mtxt x86 mpos_0 mtok x84 mnum_241 mfau mrdm mrea mlin mlne mthg mord mbor mbsm mans mand manr mali) := hD
                          refine lv_goto (tgt := 241) hx hb dX10_nextToken_330 (by decide) ?_
                          exact ih241 x86 x84 mnum_241 _ _ _ g87 (by omega) (by omega) hP hD hS (lv_sub hl [0] rfl)
                        · have dc83 : mdig_241.toInt < 2 := nleC (show (2 : Int32).toInt = 2 from rfl) rfl c83
                          refine lv_bipush (v := 10) hx hb dX10_nextToken_280 (by decide) ?_
                          refine lv_aload_n hx hb dX10_nextToken_282 rfl (lv_at hl 0 rfl) ?_
                          refine va_get (D := (dC, dI)) (ci := 10) (v := .int mnum_241) (C := RX10) (T := TX10) (N := 39) hx hb hts inX10 hown hK hP 0 rfl rfl 25 (by decide) lf155 (fun _ h9 => h9) rfl dX10_nextToken_283 ?_
                          refine lv_imul hx hb dX10_nextToken_286 ?_
                          refine lv_aload_n hx hb dX10_nextToken_287 rfl (lv_at hl 0 rfl) ?_
                          refine va_get (D := (dC, dI)) (ci := 10) (v := .ref (b 20)) (C := RX10) (T := TX10) (N := 39) hx hb hts inX10 hown hK hP 0 rfl rfl 20 (by decide) lf62 (fun _ h9 => h9) rfl dX10_nextToken_288 ?_
                          refine lv_aload_n hx hb dX10_nextToken_291 rfl (lv_at hl 0 rfl) ?_
                          refine va_get (D := (dC, dI)) (ci := 10) (v := .int mpos_241) (C := RX10) (T := TX10) (N := 39) hx hb hts inX10 hown hK hP 0 rfl rfl 21 (by decide) lf146 (fun _ h9 => h9) rfl dX10_nextToken_292 ?_
                          have b88 : vp_in mpos_241 160 := inC rfl (by omega) (by omega)
                          refine va_iald hx hb hK hP 16 0 rfl rfl b88 dX10_nextToken_295 ?_
                          refine lv_iadd hx hb dX10_nextToken_296 ?_
                          refine lv_bipush (v := 48) hx hb dX10_nextToken_297 (by decide) ?_
                          refine lv_isub hx hb dX10_nextToken_299 ?_
                          refine lv_goto (tgt := 307) hx hb dX10_nextToken_300 (by decide) ?_
                          refine lv_topi (fun x89 ex89 => ?_)
                          have ix89 : x89.toInt = (((10 * mnum_241) + (mtxt mpos_241.toNatClampNeg)) - 48).toInt := by rw [ex89]
                          refine va_put (D := (dC, dI)) (ci := 10) (v := .int x89) (ty := .int) (C := RX10) (T := TX10) (N := 39) hx hb hts inX10 tyX10 tyX10_ok nmX10 hown hK hP hD hS 0 rfl rfl 25 (by decide) lf155 (fun _ h9 => h9) rfl (by decide +kernel) rfl rfl (Nat.le_of_ble_eq_true rfl) dX10_nextToken_307 (fun H locs hP hD hS => ?_)
                          have hP : va_P (dC, dI) vwCl (wMod cI cZ cQ b mday mdoo mdA mdB mfar mmar mtel mgai mfal mtop mstr mgho mfai mpto mwal mahd mahf mcho mbes mbyt mtxt mpos_241 mpos_0 mtok mdig_241 x89 mfau mrdm mrea mlin mlne mthg mord mbor mbsm mans mand manr mali) H := hP
                          have hD : va_D A (wMod cI cZ cQ b mday mdoo mdA mdB mfar mmar mtel mgai mfal mtop mstr mgho mfai mpto mwal mahd mahf mcho mbes mbyt mtxt mpos_241 mpos_0 mtok mdig_241 x89 mfau mrdm mrea mlin mlne mthg mord mbor mbsm mans mand manr mali) := hD
                          refine lv_aload_n hx hb dX10_nextToken_310 rfl (lv_at hl 0 rfl) ?_
                          refine lv_dup hx hb dX10_nextToken_311 rfl ?_
                          refine va_get (D := (dC, dI)) (ci := 10) (v := .int mdig_241) (C := RX10) (T := TX10) (N := 39) hx hb hts inX10 hown hK hP 0 rfl rfl 24 (by decide) lf152 (fun _ h9 => h9) rfl dX10_nextToken_312 ?_
                          refine lv_iconst (v := 1) hx hb dX10_nextToken_315 (by decide) ?_
                          refine lv_iadd hx hb dX10_nextToken_316 ?_
                          refine lv_topi (fun x90 ex90 => ?_)
                          have ix90 : x90.toInt = (mdig_241 + 1).toInt := by rw [ex90]
                          refine va_put (D := (dC, dI)) (ci := 10) (v := .int x90) (ty := .int) (C := RX10) (T := TX10) (N := 39) hx hb hts inX10 tyX10 tyX10_ok nmX10 hown hK hP hD hS 0 rfl rfl 24 (by decide) lf152 (fun _ h9 => h9) rfl (by decide +kernel) rfl rfl (Nat.le_of_ble_eq_true rfl) dX10_nextToken_317 (fun H locs hP hD hS => ?_)
                          have hP : va_P (dC, dI) vwCl (wMod cI cZ cQ b mday mdoo mdA mdB mfar mmar mtel mgai mfal mtop mstr mgho mfai mpto mwal mahd mahf mcho mbes mbyt mtxt mpos_241 mpos_0 mtok x90 x89 mfau mrdm mrea mlin mlne mthg mord mbor mbsm mans mand manr mali) H := hP
                          have hD : va_D A (wMod cI cZ cQ b mday mdoo mdA mdB mfar mmar mtel mgai mfal mtop mstr mgho mfai mpto mwal mahd mahf mcho mbes mbyt mtxt mpos_241 mpos_0 mtok x90 x89 mfau mrdm mrea mlin mlne mthg mord mbor mbsm mans mand manr mali) := hD
                          refine lv_aload_n hx hb dX10_nextToken_320 rfl (lv_at hl 0 rfl) ?_
                          refine lv_dup hx hb dX10_nextToken_321 rfl ?_
                          refine va_get (D := (dC, dI)) (ci := 10) (v := .int mpos_241) (C := RX10) (T := TX10) (N := 39) hx hb hts inX10 hown hK hP 0 rfl rfl 21 (by decide) lf146 (fun _ h9 => h9) rfl dX10_nextToken_322 ?_
                          refine lv_iconst (v := 1) hx hb dX10_nextToken_325 (by decide) ?_
                          refine lv_iadd hx hb dX10_nextToken_326 ?_
                          have f91 : (mpos_241 + 1).toInt = (mpos_241.toInt) + (1) := addC rfl (show (1 : Int32).toInt = 1 from rfl) (by omega) (by omega)
                          refine lv_topi (fun x92 ex92 => ?_)
                          have ix92 : x92.toInt = (mpos_241.toInt) + (1) := by rw [ex92]; exact f91
                          refine va_put (D := (dC, dI)) (ci := 10) (v := .int x92) (ty := .int) (C := RX10) (T := TX10) (N := 39) hx hb hts inX10 tyX10 tyX10_ok nmX10 hown hK hP hD hS 0 rfl rfl 21 (by decide) lf146 (fun _ h9 => h9) rfl (by decide +kernel) rfl rfl (Nat.le_of_ble_eq_true rfl) dX10_nextToken_327 (fun H locs hP hD hS => ?_)
                          have g93 : 0 ≤ x92.toInt ∧ x92.toInt ≤ 160 := by rw [show x92.toInt = x92.toInt from rfl]; exact ⟨by omega, by omega⟩
                          have hP : va_P (dC, dI) vwCl (wMod cI cZ cQ b mday mdoo mdA mdB mfar mmar mtel mgai mfal mtop mstr mgho mfai mpto mwal mahd mahf mcho mbes mbyt mtxt x92 mpos_0 mtok x90 x89 mfau mrdm mrea mlin mlne mthg mord mbor mbsm mans mand manr mali) H := hP
                          have hD : va_D A (wMod cI cZ cQ b mday mdoo mdA mdB mfar mmar mtel mgai mfal mtop mstr mgho mfai mpto mwal mahd mahf mcho mbes mbyt mtxt x92 mpos_0 mtok x90 x89 mfau mrdm mrea mlin mlne mthg mord mbor mbsm mans mand manr mali) := hD
                          refine lv_goto (tgt := 241) hx hb dX10_nextToken_330 (by decide) ?_
                          exact ih241 x92 x90 x89 _ _ _ g93 (by omega) (by omega) hP hD hS (lv_sub hl [0] rfl)
                      · refine lv_if_eq (tgt := 333) hx hb dX10_nextToken_268 (by decide) (fun _ => ?_) (fun c9 => absurd (by decide) c9)
                        refine lv_aload_n hx hb dX10_nextToken_333 rfl (lv_at hl 0 rfl) ?_
                        refine lv_aload_n hx hb dX10_nextToken_334 rfl (lv_at hl 0 rfl) ?_
                        refine va_get (D := (dC, dI)) (ci := 10) (v := .int mdig_241) (C := RX10) (T := TX10) (N := 39) hx hb hts inX10 hown hK hP 0 rfl rfl 24 (by decide) lf152 (fun _ h9 => h9) rfl dX10_nextToken_335 ?_
                        refine lv_iconst (v := 2) hx hb dX10_nextToken_338 (by decide) ?_
                        refine lv_icmp_le (tgt := 348) hx hb dX10_nextToken_339 (by decide) (fun c94 => ?_) (fun c94 => ?_)
                        · have dc94 : mdig_241.toInt ≤ 2 := leC rfl (show (2 : Int32).toInt = 2 from rfl) c94
                          refine lv_ldc2 (v := (-1)) hx hb hown (hts (.constantLong RX10 170 (-1)) (by decide +kernel)) dX10_nextToken_348 ?_
                          refine va_put (D := (dC, dI)) (ci := 10) (v := .long (-1)) (ty := .long) (C := RX10) (T := TX10) (N := 39) hx hb hts inX10 tyX10 tyX10_ok nmX10 hown hK hP hD hS 0 rfl rfl 23 (by decide) lf160 (fun _ h9 => h9) rfl (by decide +kernel) rfl rfl (Nat.le_of_ble_eq_true rfl) dX10_nextToken_351 (fun H locs hP hD hS => ?_)
                          have hP : va_P (dC, dI) vwCl (wMod cI cZ cQ b mday mdoo mdA mdB mfar mmar mtel mgai mfal mtop mstr mgho mfai mpto mwal mahd mahf mcho mbes mbyt mtxt mpos_241 mpos_0 (-1) mdig_241 mnum_241 mfau mrdm mrea mlin mlne mthg mord mbor mbsm mans mand manr mali) H := hP
                          have hD : va_D A (wMod cI cZ cQ b mday mdoo mdA mdB mfar mmar mtel mgai mfal mtop mstr mgho mfai mpto mwal mahd mahf mcho mbes mbyt mtxt mpos_241 mpos_0 (-1) mdig_241 mnum_241 mfau mrdm mrea mlin mlne mthg mord mbor mbsm mans mand manr mali) := hD
                          refine lv_goto (tgt := 394) hx hb dX10_nextToken_354 (by decide) ?_
                          exact W.vret hx hb hr (fun tq ht hW => ⟨⟨(uS [(fun _ => mpos_241), (fun _ => mpos_0), (fun _ => 0), (fun _ => mdig_241), (fun _ => mnum_241)] (-1) (fun _ => 0)), rfl, ⟨(show mpos_241.toInt ≤ mbyt.toInt from by omega), r_mpos_241⟩, by rw [ht]; exact hP, hD⟩, hS.F ht⟩) hS.2.2 dX10_nextToken_394
                        · have dc94 : 2 < mdig_241.toInt := nleC rfl (show (2 : Int32).toInt = 2 from rfl) c94
                          refine lv_ldc2 (v := (-4)) hx hb hown (hts (.constantLong RX10 168 (-4)) (by decide +kernel)) dX10_nextToken_342 ?_
                          refine lv_goto (tgt := 351) hx hb dX10_nextToken_345 (by decide) ?_
                          refine va_put (D := (dC, dI)) (ci := 10) (v := .long (-4)) (ty := .long) (C := RX10) (T := TX10) (N := 39) hx hb hts inX10 tyX10 tyX10_ok nmX10 hown hK hP hD hS 0 rfl rfl 23 (by decide) lf160 (fun _ h9 => h9) rfl (by decide +kernel) rfl rfl (Nat.le_of_ble_eq_true rfl) dX10_nextToken_351 (fun H locs hP hD hS => ?_)
                          have hP : va_P (dC, dI) vwCl (wMod cI cZ cQ b mday mdoo mdA mdB mfar mmar mtel mgai mfal mtop mstr mgho mfai mpto mwal mahd mahf mcho mbes mbyt mtxt mpos_241 mpos_0 (-4) mdig_241 mnum_241 mfau mrdm mrea mlin mlne mthg mord mbor mbsm mans mand manr mali) H := hP
                          have hD : va_D A (wMod cI cZ cQ b mday mdoo mdA mdB mfar mmar mtel mgai mfal mtop mstr mgho mfai mpto mwal mahd mahf mcho mbes mbyt mtxt mpos_241 mpos_0 (-4) mdig_241 mnum_241 mfau mrdm mrea mlin mlne mthg mord mbor mbsm mans mand manr mali) := hD
                          refine lv_goto (tgt := 394) hx hb dX10_nextToken_354 (by decide) ?_
                          exact W.vret hx hb hr (fun tq ht hW => ⟨⟨(uS [(fun _ => mpos_241), (fun _ => mpos_0), (fun _ => 0), (fun _ => mdig_241), (fun _ => mnum_241)] (-4) (fun _ => 0)), rfl, ⟨(show mpos_241.toInt ≤ mbyt.toInt from by omega), r_mpos_241⟩, by rw [ht]; exact hP, hD⟩, hS.F ht⟩) hS.2.2 dX10_nextToken_394
                have kc95 : (0 : Int32).toInt = 0 := rfl
                exact L241 _ mpos_0 0 0 _ _ _ r_mpos_0 (by omega) (Nat.lt_succ_self _) hP hD hS (lv_sub hl [0] rfl)
              · refine lv_if_eq (tgt := 357) hx hb dX10_nextToken_238 (by decide) (fun _ => ?_) (fun c9 => absurd (by decide) c9)
                refine lv_aload_n hx hb dX10_nextToken_357 rfl (lv_at hl 0 rfl) ?_
                refine lv_aload_n hx hb dX10_nextToken_358 rfl (lv_at hl 0 rfl) ?_
                refine va_get (D := (dC, dI)) (ci := 10) (v := .ref (b 20)) (C := RX10) (T := TX10) (N := 39) hx hb hts inX10 hown hK hP 0 rfl rfl 20 (by decide) lf62 (fun _ h9 => h9) rfl dX10_nextToken_359 ?_
                refine lv_aload_n hx hb dX10_nextToken_362 rfl (lv_at hl 0 rfl) ?_
                refine va_get (D := (dC, dI)) (ci := 10) (v := .int mpos_0) (C := RX10) (T := TX10) (N := 39) hx hb hts inX10 hown hK hP 0 rfl rfl 21 (by decide) lf146 (fun _ h9 => h9) rfl dX10_nextToken_363 ?_
                have b96 : vp_in mpos_0 160 := inC rfl (by omega) (by omega)
                refine va_iald hx hb hK hP 16 0 rfl rfl b96 dX10_nextToken_366 ?_
                refine lv_bipush (v := 59) hx hb dX10_nextToken_367 (by decide) ?_
                refine lv_icmp_ne (tgt := 378) hx hb dX10_nextToken_369 (by decide) (fun c97 => ?_) (fun c97 => ?_)
                · have dc97 : (mtxt mpos_0.toNatClampNeg).toInt ≠ 59 := neC rfl (show (59 : Int32).toInt = 59 from rfl) c97
                  refine lv_ldc2 (v := (-4)) hx hb hown (hts (.constantLong RX10 168 (-4)) (by decide +kernel)) dX10_nextToken_378 ?_
                  refine va_put (D := (dC, dI)) (ci := 10) (v := .long (-4)) (ty := .long) (C := RX10) (T := TX10) (N := 39) hx hb hts inX10 tyX10 tyX10_ok nmX10 hown hK hP hD hS 0 rfl rfl 23 (by decide) lf160 (fun _ h9 => h9) rfl (by decide +kernel) rfl rfl (Nat.le_of_ble_eq_true rfl) dX10_nextToken_381 (fun H locs hP hD hS => ?_)
                  have hP : va_P (dC, dI) vwCl (wMod cI cZ cQ b mday mdoo mdA mdB mfar mmar mtel mgai mfal mtop mstr mgho mfai mpto mwal mahd mahf mcho mbes mbyt mtxt mpos_0 mpos_0 (-4) 0 0 mfau mrdm mrea mlin mlne mthg mord mbor mbsm mans mand manr mali) H := hP
                  have hD : va_D A (wMod cI cZ cQ b mday mdoo mdA mdB mfar mmar mtel mgai mfal mtop mstr mgho mfai mpto mwal mahd mahf mcho mbes mbyt mtxt mpos_0 mpos_0 (-4) 0 0 mfau mrdm mrea mlin mlne mthg mord mbor mbsm mans mand manr mali) := hD
                  refine lv_aload_n hx hb dX10_nextToken_384 rfl (lv_at hl 0 rfl) ?_
                  refine lv_dup hx hb dX10_nextToken_385 rfl ?_
                  refine va_get (D := (dC, dI)) (ci := 10) (v := .int mpos_0) (C := RX10) (T := TX10) (N := 39) hx hb hts inX10 hown hK hP 0 rfl rfl 21 (by decide) lf146 (fun _ h9 => h9) rfl dX10_nextToken_386 ?_
                  refine lv_iconst (v := 1) hx hb dX10_nextToken_389 (by decide) ?_
                  refine lv_iadd hx hb dX10_nextToken_390 ?_
                  have f98 : (mpos_0 + 1).toInt = (mpos_0.toInt) + (1) := addC rfl (show (1 : Int32).toInt = 1 from rfl) (by omega) (by omega)
                  refine lv_topi (fun x99 ex99 => ?_)
                  have ix99 : x99.toInt = (mpos_0.toInt) + (1) := by rw [ex99]; exact f98
                  refine va_put (D := (dC, dI)) (ci := 10) (v := .int x99) (ty := .int) (C := RX10) (T := TX10) (N := 39) hx hb hts inX10 tyX10 tyX10_ok nmX10 hown hK hP hD hS 0 rfl rfl 21 (by decide) lf146 (fun _ h9 => h9) rfl (by decide +kernel) rfl rfl (Nat.le_of_ble_eq_true rfl) dX10_nextToken_391 (fun H locs hP hD hS => ?_)
                  have g100 : 0 ≤ x99.toInt ∧ x99.toInt ≤ 160 := by rw [show x99.toInt = x99.toInt from rfl]; exact ⟨by omega, by omega⟩
                  have hP : va_P (dC, dI) vwCl (wMod cI cZ cQ b mday mdoo mdA mdB mfar mmar mtel mgai mfal mtop mstr mgho mfai mpto mwal mahd mahf mcho mbes mbyt mtxt x99 mpos_0 (-4) 0 0 mfau mrdm mrea mlin mlne mthg mord mbor mbsm mans mand manr mali) H := hP
                  have hD : va_D A (wMod cI cZ cQ b mday mdoo mdA mdB mfar mmar mtel mgai mfal mtop mstr mgho mfai mpto mwal mahd mahf mcho mbes mbyt mtxt x99 mpos_0 (-4) 0 0 mfau mrdm mrea mlin mlne mthg mord mbor mbsm mans mand manr mali) := hD
                  exact W.vret hx hb hr (fun tq ht hW => ⟨⟨(uS [(fun _ => x99), (fun _ => mpos_0), (fun _ => 0), (fun _ => 0), (fun _ => 0)] (-4) (fun _ => 0)), rfl, ⟨(show x99.toInt ≤ mbyt.toInt from by omega), g100⟩, by rw [ht]; exact hP, hD⟩, hS.F ht⟩) hS.2.2 dX10_nextToken_394
                · have dc97 : (mtxt mpos_0.toNatClampNeg).toInt = 59 := eqC rfl (show (59 : Int32).toInt = 59 from rfl) c97
                  refine lv_ldc2 (v := (-3)) hx hb hown (hts (.constantLong RX10 172 (-3)) (by decide +kernel)) dX10_nextToken_372 ?_
                  refine lv_goto (tgt := 381) hx hb dX10_nextToken_375 (by decide) ?_
                  refine va_put (D := (dC, dI)) (ci := 10) (v := .long (-3)) (ty := .long) (C := RX10) (T := TX10) (N := 39) hx hb hts inX10 tyX10 tyX10_ok nmX10 hown hK hP hD hS 0 rfl rfl 23 (by decide) lf160 (fun _ h9 => h9) rfl (by decide +kernel) rfl rfl (Nat.le_of_ble_eq_true rfl) dX10_nextToken_381 (fun H locs hP hD hS => ?_)
                  have hP : va_P (dC, dI) vwCl (wMod cI cZ cQ b mday mdoo mdA mdB mfar mmar mtel mgai mfal mtop mstr mgho mfai mpto mwal mahd mahf mcho mbes mbyt mtxt mpos_0 mpos_0 (-3) 0 0 mfau mrdm mrea mlin mlne mthg mord mbor mbsm mans mand manr mali) H := hP
                  have hD : va_D A (wMod cI cZ cQ b mday mdoo mdA mdB mfar mmar mtel mgai mfal mtop mstr mgho mfai mpto mwal mahd mahf mcho mbes mbyt mtxt mpos_0 mpos_0 (-3) 0 0 mfau mrdm mrea mlin mlne mthg mord mbor mbsm mans mand manr mali) := hD
                  refine lv_aload_n hx hb dX10_nextToken_384 rfl (lv_at hl 0 rfl) ?_
                  refine lv_dup hx hb dX10_nextToken_385 rfl ?_
                  refine va_get (D := (dC, dI)) (ci := 10) (v := .int mpos_0) (C := RX10) (T := TX10) (N := 39) hx hb hts inX10 hown hK hP 0 rfl rfl 21 (by decide) lf146 (fun _ h9 => h9) rfl dX10_nextToken_386 ?_
                  refine lv_iconst (v := 1) hx hb dX10_nextToken_389 (by decide) ?_
                  refine lv_iadd hx hb dX10_nextToken_390 ?_
                  have f101 : (mpos_0 + 1).toInt = (mpos_0.toInt) + (1) := addC rfl (show (1 : Int32).toInt = 1 from rfl) (by omega) (by omega)
                  refine lv_topi (fun x102 ex102 => ?_)
                  have ix102 : x102.toInt = (mpos_0.toInt) + (1) := by rw [ex102]; exact f101
                  refine va_put (D := (dC, dI)) (ci := 10) (v := .int x102) (ty := .int) (C := RX10) (T := TX10) (N := 39) hx hb hts inX10 tyX10 tyX10_ok nmX10 hown hK hP hD hS 0 rfl rfl 21 (by decide) lf146 (fun _ h9 => h9) rfl (by decide +kernel) rfl rfl (Nat.le_of_ble_eq_true rfl) dX10_nextToken_391 (fun H locs hP hD hS => ?_)
                  have g103 : 0 ≤ x102.toInt ∧ x102.toInt ≤ 160 := by rw [show x102.toInt = x102.toInt from rfl]; exact ⟨by omega, by omega⟩
                  have hP : va_P (dC, dI) vwCl (wMod cI cZ cQ b mday mdoo mdA mdB mfar mmar mtel mgai mfal mtop mstr mgho mfai mpto mwal mahd mahf mcho mbes mbyt mtxt x102 mpos_0 (-3) 0 0 mfau mrdm mrea mlin mlne mthg mord mbor mbsm mans mand manr mali) H := hP
                  have hD : va_D A (wMod cI cZ cQ b mday mdoo mdA mdB mfar mmar mtel mgai mfal mtop mstr mgho mfai mpto mwal mahd mahf mcho mbes mbyt mtxt x102 mpos_0 (-3) 0 0 mfau mrdm mrea mlin mlne mthg mord mbor mbsm mans mand manr mali) := hD
                  exact W.vret hx hb hr (fun tq ht hW => ⟨⟨(uS [(fun _ => x102), (fun _ => mpos_0), (fun _ => 0), (fun _ => 0), (fun _ => 0)] (-3) (fun _ => 0)), rfl, ⟨(show x102.toInt ≤ mbyt.toInt from by omega), g103⟩, by rw [ht]; exact hP, hD⟩, hS.F ht⟩) hS.2.2 dX10_nextToken_394
          · have dc54 : mpos_0.toInt = mbyt.toInt := eqC rfl rfl c54
            refine lv_aload_n hx hb dX10_nextToken_67 rfl (lv_at hl 0 rfl) ?_
            refine lv_ldc2 (v := (-2)) hx hb hown (hts (.constantLong RX10 158 (-2)) (by decide +kernel)) dX10_nextToken_68 ?_
            refine va_put (D := (dC, dI)) (ci := 10) (v := .long (-2)) (ty := .long) (C := RX10) (T := TX10) (N := 39) hx hb hts inX10 tyX10 tyX10_ok nmX10 hown hK hP hD hS 0 rfl rfl 23 (by decide) lf160 (fun _ h9 => h9) rfl (by decide +kernel) rfl rfl (Nat.le_of_ble_eq_true rfl) dX10_nextToken_71 (fun H locs hP hD hS => ?_)
            have hP : va_P (dC, dI) vwCl (wMod cI cZ cQ b mday mdoo mdA mdB mfar mmar mtel mgai mfal mtop mstr mgho mfai mpto mwal mahd mahf mcho mbes mbyt mtxt mpos_0 mpos_0 (-2) 0 0 mfau mrdm mrea mlin mlne mthg mord mbor mbsm mans mand manr mali) H := hP
            have hD : va_D A (wMod cI cZ cQ b mday mdoo mdA mdB mfar mmar mtel mgai mfal mtop mstr mgho mfai mpto mwal mahd mahf mcho mbes mbyt mtxt mpos_0 mpos_0 (-2) 0 0 mfau mrdm mrea mlin mlne mthg mord mbor mbsm mans mand manr mali) := hD
            refine lv_goto (tgt := 394) hx hb dX10_nextToken_74 (by decide) ?_
            exact W.vret hx hb hr (fun tq ht hW => ⟨⟨(uS [(fun _ => mpos_0), (fun _ => mpos_0), (fun _ => 0), (fun _ => 0), (fun _ => 0)] (-2) (fun _ => 0)), rfl, ⟨(show mpos_0.toInt ≤ mbyt.toInt from by omega), r_mpos_0⟩, by rw [ht]; exact hP, hD⟩, hS.F ht⟩) hS.2.2 dX10_nextToken_394
        · have dc53 : (mtxt mpos_0.toNatClampNeg).toInt = 32 := eqC rfl (show (32 : Int32).toInt = 32 from rfl) c53
          refine lv_aload_n hx hb dX10_nextToken_25 rfl (lv_at hl 0 rfl) ?_
          refine lv_dup hx hb dX10_nextToken_26 rfl ?_
          refine va_get (D := (dC, dI)) (ci := 10) (v := .int mpos_0) (C := RX10) (T := TX10) (N := 39) hx hb hts inX10 hown hK hP 0 rfl rfl 21 (by decide) lf146 (fun _ h9 => h9) rfl dX10_nextToken_27 ?_
          refine lv_iconst (v := 1) hx hb dX10_nextToken_30 (by decide) ?_
          refine lv_iadd hx hb dX10_nextToken_31 ?_
          have f104 : (mpos_0 + 1).toInt = (mpos_0.toInt) + (1) := addC rfl (show (1 : Int32).toInt = 1 from rfl) (by omega) (by omega)
          refine lv_topi (fun x105 ex105 => ?_)
          have ix105 : x105.toInt = (mpos_0.toInt) + (1) := by rw [ex105]; exact f104
          refine va_put (D := (dC, dI)) (ci := 10) (v := .int x105) (ty := .int) (C := RX10) (T := TX10) (N := 39) hx hb hts inX10 tyX10 tyX10_ok nmX10 hown hK hP hD hS 0 rfl rfl 21 (by decide) lf146 (fun _ h9 => h9) rfl (by decide +kernel) rfl rfl (Nat.le_of_ble_eq_true rfl) dX10_nextToken_32 (fun H locs hP hD hS => ?_)
          have g106 : 0 ≤ x105.toInt ∧ x105.toInt ≤ 160 := by rw [show x105.toInt = x105.toInt from rfl]; exact ⟨by omega, by omega⟩
          have hP : va_P (dC, dI) vwCl (wMod cI cZ cQ b mday mdoo mdA mdB mfar mmar mtel mgai mfal mtop mstr mgho mfai mpto mwal mahd mahf mcho mbes mbyt mtxt x105 mtka mtok mdig mnum mfau mrdm mrea mlin mlne mthg mord mbor mbsm mans mand manr mali) H := hP
          have hD : va_D A (wMod cI cZ cQ b mday mdoo mdA mdB mfar mmar mtel mgai mfal mtop mstr mgho mfai mpto mwal mahd mahf mcho mbes mbyt mtxt x105 mtka mtok mdig mnum mfau mrdm mrea mlin mlne mthg mord mbor mbsm mans mand manr mali) := hD
          refine lv_goto (tgt := 0) hx hb dX10_nextToken_35 (by decide) ?_
          exact ih0 x105 _ _ _ g106 (by omega) (by omega) hP hD hS (lv_sub hl [0] rfl)
  exact L0 _ mpos _ _ _ r_mpos (by omega) (Nat.lt_succ_self _) hP hD hS (lv_sub hl [0] rfl)
set_option maxHeartbeats 4000000 in
set_option maxRecDepth 100000 in
theorem k_X10_fails (l : Launch) (dC : Nat → ClassId) (dI : Nat → Nat → Nat) (cI cZ cQ : ClassId) (b : Nat → Nat) (mday : Int32) (mdoo : Int32) (mdA : Nat → Int32) (mdB : Nat → Int32) (mfar : Nat → Int32) (mmar : Nat → Int32) (mtel : Int32) (mgai : Int32) (mfal : Nat → Int32) (mtop : Nat → Int32) (mstr : Nat → Int32) (mgho : Nat → Int32) (mfai : Nat → Int32) (mpto : Nat → Int32) (mwal : Nat → Int32) (mahd : Nat → Int32) (mahf : Nat → Int32) (mcho : Nat → Int32) (mbes : Nat → Int32) (mbyt : Int32) (mtxt : Nat → Int32) (mpos : Int32) (mtka : Int32) (mtok : Int64) (mdig : Int32) (mnum : Int32) (mfau : Int32) (mrdm : Int32) (mrea : Nat → Int32) (mlin : Int32) (mlne : Nat → Int32) (mthg : Nat → Int32) (mord : Nat → Int32) (mbor : Nat → Int32) (mbsm : Int32) (mans : Nat → Int32) (mand : Nat → Int32) (manr : Nat → Int32) (mali : Nat → Int32) (sz : Nat) (r_mday : 0 ≤ mday.toInt ∧ mday.toInt ≤ 400) (r_mdoo : 0 ≤ mdoo.toInt ∧ mdoo.toInt ≤ 14) (r_mdA : rg 14 (0) (7) mdA) (r_mdB : rg 14 (0) (7) mdB) (r_mmar : rg 24 (0) (255) mmar) (r_mgai : 0 ≤ mgai.toInt ∧ mgai.toInt ≤ 100) (r_mfal : rg 11 (0) (30) mfal) (r_mtop : rg 48 (-1) (23) mtop) (r_mstr : rg 48 (0) (100) mstr) (r_mgho : rg 48 (-1) (23) mgho) (r_mfai : rg 48 (0) (100) mfai) (r_mahd : rg 240 (0) (100) mahd) (r_mahf : rg 240 (0) (100) mahf) (r_mcho : rg 5 (-1) (9) mcho) (r_mbyt : 0 ≤ mbyt.toInt ∧ mbyt.toInt ≤ 160) (r_mpos : 0 ≤ mpos.toInt ∧ mpos.toInt ≤ 160) (r_mrdm : 0 ≤ mrdm.toInt ∧ mrdm.toInt ≤ 10) (r_mlin : 0 ≤ mlin.toInt ∧ mlin.toInt ≤ 10) (r_mthg : rg 8 (0) (31) mthg) (r_mord : rg 8 (-1) (8) mord) (r_mans : rg 4 (0) (12) mans) : KW l yX10_fails wsX10_fails { frames := 0, cells := 0, slots := 0, locals := 0 } (dC, dI) (TY cI cZ cQ) (wMod cI cZ cQ b mday mdoo mdA mdB mfar mmar mtel mgai mfal mtop mstr mgho mfai mpto mwal mahd mahf mcho mbes mbyt mtxt mpos mtka mtok mdig mnum mfau mrdm mrea mlin mlne mthg mord mbor mbsm mans mand manr mali) [.ref (b 39)] sz 0 0 (fun (r : Int32) (u : US) => ((((r = 0))))) (fun u : US => (wMod cI cZ cQ b mday mdoo mdA mdB mfar mmar mtel mgai mfal mtop mstr mgho mfai mpto mwal mahd mahf mcho mbes mbyt mtxt mpos mtka mtok mdig mnum (u.1 0 0) mrdm mrea mlin mlne mthg mord mbor mbsm mans mand manr mali)) := by
  refine Met.ofW (cc := cX10_fails) (maxL := 1) (ret := (some .boolean)) (by decide) rfl ?_
  intro p e s m args below meth c s₁ B hml hv
  obtain ⟨rfl, hsz, hP, hK, hD0, hN⟩ := hv
  have hx := B.exec
  have hb := B.bytes
  have hr := B.returns
  have hts := atoms_spec (ws := wsX10_fails) B.pre
  have hown : s.vm.findClass RX10 = some m.cls := findClass_of_methodNamed B.named
  have hlocks := B.notSynchronized
  have lf149 := hts (.fieldLink RX10 149 "PalaceOfRoomsModel" "tokenAt" "I") (by decide +kernel)
  have inX10 : ∀ w ∈ wsX100, w ∈ wsX10_fails := fun w h => List.mem_cons_of_mem _ (List.mem_append_right _ h)
  have lf174 := hts (.fieldLink RX10 174 "PalaceOfRoomsModel" "faultAt" "I") (by decide +kernel)
  subst hsz
  have hD := hD0.self (sz := s.heap.size)
  generalize hAe : va_A (wMod cI cZ cQ b mday mdoo mdA mdB mfar mmar mtel mgai mfal mtop mstr mgho mfai mpto mwal mahd mahf mcho mbes mbyt mtxt mpos mtka mtok mdig mnum mfau mrdm mrea mlin mlne mthg mord mbor mbsm mans mand manr mali) s.heap.size = A at hD ⊢
  have hA : ∀ q : Nat, s.heap.size ≤ q → A q := fun q h => by rw [← hAe]; exact Or.inr h
  have hS : va_S A s.heap s.heap [] := va_S.rf
  have hl := lv_entry ([.ref (b 39)]) (n := 1) (Nat.le_of_ble_eq_true rfl)
  rw [lg_entry_eq]
  generalize (lg_sl ([.ref (b 39)]) ++ List.replicate (1 - (lg_sl ([.ref (b 39)])).length) Slot.unset).toArray = ls at hl ⊢
  have hl : lv_has ls 1 [(0, .ref (b 39))] := hl
  refine lv_aload_n hx hb dX10_fails_0 rfl (lv_at hl 0 rfl) ?_
  refine lv_aload_n hx hb dX10_fails_1 rfl (lv_at hl 0 rfl) ?_
  refine va_get (D := (dC, dI)) (ci := 10) (v := .int mtka) (C := RX10) (T := TX10) (N := 39) hx hb hts inX10 hown hK hP 0 rfl rfl 22 (by decide) lf149 (fun _ h9 => h9) rfl dX10_fails_2 ?_
  refine va_put (D := (dC, dI)) (ci := 10) (v := .int mtka) (ty := .int) (C := RX10) (T := TX10) (N := 39) hx hb hts inX10 tyX10 tyX10_ok nmX10 hown hK hP hD hS 0 rfl rfl 26 (by decide) lf174 (fun _ h9 => h9) rfl (by decide +kernel) rfl rfl (Nat.le_of_ble_eq_true rfl) dX10_fails_5 (fun H locs hP hD hS => ?_)
  have hP : va_P (dC, dI) vwCl (wMod cI cZ cQ b mday mdoo mdA mdB mfar mmar mtel mgai mfal mtop mstr mgho mfai mpto mwal mahd mahf mcho mbes mbyt mtxt mpos mtka mtok mdig mnum mtka mrdm mrea mlin mlne mthg mord mbor mbsm mans mand manr mali) H := hP
  have hD : va_D A (wMod cI cZ cQ b mday mdoo mdA mdB mfar mmar mtel mgai mfal mtop mstr mgho mfai mpto mwal mahd mahf mcho mbes mbyt mtxt mpos mtka mtok mdig mnum mtka mrdm mrea mlin mlne mthg mord mbor mbsm mans mand manr mali) := hD
  refine lv_iconst (v := 0) hx hb dX10_fails_8 (by decide) ?_
  exact W.zret (v := 0) hx hb hr (by decide) (fun tq ht hW => ⟨⟨0, (uS [(fun _ => mtka)] 0 (fun _ => 0)), rfl, rfl, by rw [ht]; exact hP, hD⟩, hS.F ht⟩) hS.2.2 dX10_fails_9
set_option maxHeartbeats 4000000 in
set_option maxRecDepth 100000 in
theorem k_X10_isNumber (l : Launch) (dC : Nat → ClassId) (dI : Nat → Nat → Nat) (cI cZ cQ : ClassId) (b : Nat → Nat) (mday : Int32) (mdoo : Int32) (mdA : Nat → Int32) (mdB : Nat → Int32) (mfar : Nat → Int32) (mmar : Nat → Int32) (mtel : Int32) (mgai : Int32) (mfal : Nat → Int32) (mtop : Nat → Int32) (mstr : Nat → Int32) (mgho : Nat → Int32) (mfai : Nat → Int32) (mpto : Nat → Int32) (mwal : Nat → Int32) (mahd : Nat → Int32) (mahf : Nat → Int32) (mcho : Nat → Int32) (mbes : Nat → Int32) (mbyt : Int32) (mtxt : Nat → Int32) (mpos : Int32) (mtka : Int32) (mtok : Int64) (mdig : Int32) (mnum : Int32) (mfau : Int32) (mrdm : Int32) (mrea : Nat → Int32) (mlin : Int32) (mlne : Nat → Int32) (mthg : Nat → Int32) (mord : Nat → Int32) (mbor : Nat → Int32) (mbsm : Int32) (mans : Nat → Int32) (mand : Nat → Int32) (manr : Nat → Int32) (mali : Nat → Int32) (sz : Nat) (at_ : Int32) (least : Int32) (most : Int32) (r_mday : 0 ≤ mday.toInt ∧ mday.toInt ≤ 400) (r_mdoo : 0 ≤ mdoo.toInt ∧ mdoo.toInt ≤ 14) (r_mdA : rg 14 (0) (7) mdA) (r_mdB : rg 14 (0) (7) mdB) (r_mmar : rg 24 (0) (255) mmar) (r_mgai : 0 ≤ mgai.toInt ∧ mgai.toInt ≤ 100) (r_mfal : rg 11 (0) (30) mfal) (r_mtop : rg 48 (-1) (23) mtop) (r_mstr : rg 48 (0) (100) mstr) (r_mgho : rg 48 (-1) (23) mgho) (r_mfai : rg 48 (0) (100) mfai) (r_mahd : rg 240 (0) (100) mahd) (r_mahf : rg 240 (0) (100) mahf) (r_mcho : rg 5 (-1) (9) mcho) (r_mbyt : 0 ≤ mbyt.toInt ∧ mbyt.toInt ≤ 160) (r_mpos : 0 ≤ mpos.toInt ∧ mpos.toInt ≤ 160) (r_mrdm : 0 ≤ mrdm.toInt ∧ mrdm.toInt ≤ 10) (r_mlin : 0 ≤ mlin.toInt ∧ mlin.toInt ≤ 10) (r_mthg : rg 8 (0) (31) mthg) (r_mord : rg 8 (-1) (8) mord) (r_mans : rg 4 (0) (12) mans) (q0 : 0 ≤ at_.toInt) (q1 : at_.toInt ≤ 29) (q2 : mpos.toInt ≤ mbyt.toInt) : KW l yX10_isNumber wsX10_isNumber { frames := 2, cells := 0, slots := 0, locals := 42 } (dC, dI) (TY cI cZ cQ) (wMod cI cZ cQ b mday mdoo mdA mdB mfar mmar mtel mgai mfal mtop mstr mgho mfai mpto mwal mahd mahf mcho mbes mbyt mtxt mpos mtka mtok mdig mnum mfau mrdm mrea mlin mlne mthg mord mbor mbsm mans mand manr mali) [.ref (b 39), .int at_, .int least, .int most] sz 0 0 (fun (r : Int32) (u : US) => ((((r = 1)) ∨ ((r = 0)))) ∧ ((u.1 0 0).toInt ≤ mbyt.toInt) ∧ (0 ≤ (u.1 0 0).toInt ∧ (u.1 0 0).toInt ≤ 160)) (fun u : US => (wMod cI cZ cQ b mday mdoo mdA mdB mfar mmar mtel mgai mfal mtop mstr mgho mfai mpto mwal mahd mahf mcho mbes mbyt mtxt (u.1 0 0) (u.1 1 0) u.2.1 (u.1 3 0) (u.1 4 0) (u.1 5 0) mrdm (u.1 6) mlin mlne mthg mord mbor mbsm mans mand manr mali)) := by
  refine Met.ofW (cc := cX10_isNumber) (maxL := 4) (ret := (some .boolean)) (by decide) rfl ?_
  intro p e s m args below meth c s₁ B hml hv
  obtain ⟨rfl, hsz, hP, hK, hD0, hN⟩ := hv
  have hx := B.exec
  have hb := B.bytes
  have hr := B.returns
  have hts := atoms_spec (ws := wsX10_isNumber) B.pre
  have hown : s.vm.findClass RX10 = some m.cls := findClass_of_methodNamed B.named
  have hlocks := B.notSynchronized
  have lf160 := hts (.fieldLink RX10 160 "PalaceOfRoomsModel" "token" "J") (by decide +kernel)
  have inX10 : ∀ w ∈ wsX100, w ∈ wsX10_isNumber := fun w h => List.mem_cons_of_mem _ (List.mem_append_right _ h)
  have lf155 := hts (.fieldLink RX10 155 "PalaceOfRoomsModel" "number" "I") (by decide +kernel)
  have lf65 := hts (.fieldLink RX10 65 "PalaceOfRoomsModel" "read" "[I") (by decide +kernel)
  subst hsz
  have hD := hD0.self (sz := s.heap.size)
  generalize hAe : va_A (wMod cI cZ cQ b mday mdoo mdA mdB mfar mmar mtel mgai mfal mtop mstr mgho mfai mpto mwal mahd mahf mcho mbes mbyt mtxt mpos mtka mtok mdig mnum mfau mrdm mrea mlin mlne mthg mord mbor mbsm mans mand manr mali) s.heap.size = A at hD ⊢
  have hA : ∀ q : Nat, s.heap.size ≤ q → A q := fun q h => by rw [← hAe]; exact Or.inr h
  have hS : va_S A s.heap s.heap [] := va_S.rf
  have hl := lv_entry ([.ref (b 39), .int at_, .int least, .int most]) (n := 4) (Nat.le_of_ble_eq_true rfl)
  rw [lg_entry_eq]
  generalize (lg_sl ([.ref (b 39), .int at_, .int least, .int most]) ++ List.replicate (4 - (lg_sl ([.ref (b 39), .int at_, .int least, .int most])).length) Slot.unset).toArray = ls at hl ⊢
  have hl : lv_has ls 4 [(0, .ref (b 39)), (1, .int at_), (2, .int least), (3, .int most)] := hl
  refine lv_aload_n hx hb dX10_isNumber_0 rfl (lv_at hl 0 rfl) ?_
  refine wvV (As := []) (rest := []) (wr := []) (w2 := (fun u : US => (wMod cI cZ cQ b mday mdoo mdA mdB mfar mmar mtel mgai mfal mtop mstr mgho mfai mpto mwal mahd mahf mcho mbes mbyt mtxt (u.1 0 0) (u.1 1 0) u.2.1 (u.1 3 0) (u.1 4 0) mfau mrdm mrea mlin mlne mthg mord mbor mbsm mans mand manr mali))) ⟨hx, hb, hml, hown, hts⟩ (k_X10_nextToken l dC dI cI cZ cQ b mday mdoo mdA mdB mfar mmar mtel mgai mfal mtop mstr mgho mfai mpto mwal mahd mahf mcho mbes mbyt mtxt mpos mtka mtok mdig mnum mfau mrdm mrea mlin mlne mthg mord mbor mbsm mans mand manr mali _ r_mday r_mdoo r_mdA r_mdB r_mmar r_mgai r_mfal r_mtop r_mstr r_mgho r_mfai r_mahd r_mahf r_mcho r_mbyt r_mpos r_mrdm r_mlin r_mthg r_mord r_mans (by omega)) (cwV 0 hts gX10_isNumber_X10_nextToken rfl rfl rfl (by decide +kernel) ⟨Nat.le_of_ble_eq_true rfl, Nat.le_of_ble_eq_true rfl⟩) hP hD hS hA hK hN [0, 1, 2, 3, 4, 5, 6, 7, 8, 9, 10, 11, 12, 13, 14, 15, 16, 17, 18, 19, 20, 21, 22, 23, 24, 25] [] [0, 1, 2, 3, 4, 5, 6, 7, 8, 9, 10, 11, 12, 13, 14, 15, 16, 17, 18, 19, 20, 21, 22, 23, 24, 25] rfl rfl (by decide) (by decide) (by decide) (fun _ => rfl) (by decide) 0 10 rfl rfl rfl hl.1 rfl (Nat.le_of_ble_eq_true rfl) dX10_isNumber_1 ⟨Nat.le_of_ble_eq_true rfl, Nat.le_of_ble_eq_true rfl⟩ (fun u3 H locs h2 hP hD hS => ?_)
  obtain ⟨mpos_c4, empos_c4⟩ : ∃ f : Int32, f = (u3.1 0 0) := ⟨_, rfl⟩
  obtain ⟨mtka_c5, emtka_c5⟩ : ∃ f : Int32, f = (u3.1 1 0) := ⟨_, rfl⟩
  obtain ⟨mtok_c6, emtok_c6⟩ : ∃ f : Int64, f = u3.2.1 := ⟨_, rfl⟩
  obtain ⟨mdig_c7, emdig_c7⟩ : ∃ f : Int32, f = (u3.1 3 0) := ⟨_, rfl⟩
  obtain ⟨mnum_c8, emnum_c8⟩ : ∃ f : Int32, f = (u3.1 4 0) := ⟨_, rfl⟩
  have hP : va_P (dC, dI) vwCl (wMod cI cZ cQ b mday mdoo mdA mdB mfar mmar mtel mgai mfal mtop mstr mgho mfai mpto mwal mahd mahf mcho mbes mbyt mtxt mpos_c4 mtka_c5 mtok_c6 mdig_c7 mnum_c8 mfau mrdm mrea mlin mlne mthg mord mbor mbsm mans mand manr mali) H := by rw [empos_c4, emtka_c5, emtok_c6, emdig_c7, emnum_c8]; exact hP
  have hD : va_D A (wMod cI cZ cQ b mday mdoo mdA mdB mfar mmar mtel mgai mfal mtop mstr mgho mfai mpto mwal mahd mahf mcho mbes mbyt mtxt mpos_c4 mtka_c5 mtok_c6 mdig_c7 mnum_c8 mfau mrdm mrea mlin mlne mthg mord mbor mbsm mans mand manr mali) := by rw [empos_c4, emtka_c5, emtok_c6, emdig_c7, emnum_c8]; exact hD
  have h2 : (mpos_c4.toInt ≤ mbyt.toInt) ∧ (0 ≤ mpos_c4.toInt ∧ mpos_c4.toInt ≤ 160) := by (try rw [empos_c4]); (try rw [emtka_c5]); (try rw [emtok_c6]); (try rw [emdig_c7]); (try rw [emnum_c8]); exact h2
  obtain ⟨h2_0, h2_1⟩ := h2
  refine lv_aload_n hx hb dX10_isNumber_4 rfl (lv_at hl 0 rfl) ?_
  refine va_get (D := (dC, dI)) (ci := 10) (v := .long mtok_c6) (C := RX10) (T := TX10) (N := 39) hx hb hts inX10 hown hK hP 0 rfl rfl 23 (by decide) lf160 (fun _ h9 => h9) rfl dX10_isNumber_5 ?_
  refine lv_ldc2 (v := (-1)) hx hb hown (hts (.constantLong RX10 170 (-1)) (by decide +kernel)) dX10_isNumber_8 ?_
  refine W.lcmp hx hb dX10_isNumber_11 ?_
  refine lv_if_ne (tgt := 27) hx hb dX10_isNumber_12 (by decide) (fun c9 => ?_) (fun c9 => ?_)
  · have dc9 : (lg_cmp mtok_c6 (-1)).toInt ≠ 0 := neC rfl (show (0 : Int32).toInt = 0 from rfl) c9
    refine lv_aload_n hx hb dX10_isNumber_27 rfl (lv_at hl 0 rfl) ?_
    refine wrV (As := []) (rest := []) (wr := []) (w2 := (fun u : US => (wMod cI cZ cQ b mday mdoo mdA mdB mfar mmar mtel mgai mfal mtop mstr mgho mfai mpto mwal mahd mahf mcho mbes mbyt mtxt mpos_c4 mtka_c5 mtok_c6 mdig_c7 mnum_c8 (u.1 0 0) mrdm mrea mlin mlne mthg mord mbor mbsm mans mand manr mali))) ⟨hx, hb, hml, hown, hts⟩ (k_X10_fails l dC dI cI cZ cQ b mday mdoo mdA mdB mfar mmar mtel mgai mfal mtop mstr mgho mfai mpto mwal mahd mahf mcho mbes mbyt mtxt mpos_c4 mtka_c5 mtok_c6 mdig_c7 mnum_c8 mfau mrdm mrea mlin mlne mthg mord mbor mbsm mans mand manr mali _ r_mday r_mdoo r_mdA r_mdB r_mmar r_mgai r_mfal r_mtop r_mstr r_mgho r_mfai r_mahd r_mahf r_mcho r_mbyt h2_1 r_mrdm r_mlin r_mthg r_mord r_mans) (cwV 0 hts gX10_isNumber_X10_fails rfl rfl rfl (by decide +kernel) ⟨Nat.le_of_ble_eq_true rfl, Nat.le_of_ble_eq_true rfl⟩) hP hD hS hA hK hN [0, 1, 2, 3, 4, 5, 6, 7, 8, 9, 10, 11, 12, 13, 14, 15, 16, 17, 18, 19, 20, 21, 22, 23, 24, 25] [] [0, 1, 2, 3, 4, 5, 6, 7, 8, 9, 10, 11, 12, 13, 14, 15, 16, 17, 18, 19, 20, 21, 22, 23, 24, 25] rfl rfl (by decide) (by decide) (by decide) (fun _ => rfl) (by decide) 0 10 rfl rfl rfl hl.1 rfl (Nat.le_of_ble_eq_true rfl) dX10_isNumber_28 ⟨Nat.le_of_ble_eq_true rfl, Nat.le_of_ble_eq_true rfl⟩ (fun r10 u12 H locs h11 hP hD hS => ?_)
    obtain ⟨mfau_c13, emfau_c13⟩ : ∃ f : Int32, f = (u12.1 0 0) := ⟨_, rfl⟩
    have hP : va_P (dC, dI) vwCl (wMod cI cZ cQ b mday mdoo mdA mdB mfar mmar mtel mgai mfal mtop mstr mgho mfai mpto mwal mahd mahf mcho mbes mbyt mtxt mpos_c4 mtka_c5 mtok_c6 mdig_c7 mnum_c8 mfau_c13 mrdm mrea mlin mlne mthg mord mbor mbsm mans mand manr mali) H := by rw [emfau_c13]; exact hP
    have hD : va_D A (wMod cI cZ cQ b mday mdoo mdA mdB mfar mmar mtel mgai mfal mtop mstr mgho mfai mpto mwal mahd mahf mcho mbes mbyt mtxt mpos_c4 mtka_c5 mtok_c6 mdig_c7 mnum_c8 mfau_c13 mrdm mrea mlin mlne mthg mord mbor mbsm mans mand manr mali) := by rw [emfau_c13]; exact hD
    have h11 : ((((r10 = 0)))) := by (try rw [emfau_c13]); exact h11
    rcases h11 with (rfl)
    · exact W.zret (v := 0) hx hb hr (by decide) (fun tq ht hW => ⟨⟨0, (uS [(fun _ => mpos_c4), (fun _ => mtka_c5), (fun _ => 0), (fun _ => mdig_c7), (fun _ => mnum_c8), (fun _ => mfau_c13), mrea] mtok_c6 (fun _ => 0)), rfl, ⟨(Or.inr rfl), (show mpos_c4.toInt ≤ mbyt.toInt from by (try rw [show (0 : Int32).toInt = 0 from (show (0 : Int32).toInt = 0 from rfl)]); omega), h2_1⟩, by rw [ht]; exact hP, hD⟩, hS.F ht⟩) hS.2.2 dX10_isNumber_31
  · have dc9 : (lg_cmp mtok_c6 (-1)).toInt = 0 := eqC rfl (show (0 : Int32).toInt = 0 from rfl) c9
    refine lv_aload_n hx hb dX10_isNumber_15 rfl (lv_at hl 0 rfl) ?_
    refine va_get (D := (dC, dI)) (ci := 10) (v := .int mnum_c8) (C := RX10) (T := TX10) (N := 39) hx hb hts inX10 hown hK hP 0 rfl rfl 25 (by decide) lf155 (fun _ h9 => h9) rfl dX10_isNumber_16 ?_
    refine lv_iload_n hx hb dX10_isNumber_19 rfl (lv_at hl 2 rfl) ?_
    refine lv_iload_n hx hb dX10_isNumber_20 rfl (lv_at hl 3 rfl) ?_
    refine rdS (As := [.int mnum_c8, .int least, .int most]) (rest := []) ⟨hx, hb, hml, hown, hts⟩ (k_X10_in l dC dI cI cZ cQ mnum_c8 least most) (va_cwS 3 hts gX10_isNumber_X10_in rfl rfl rfl (by decide +kernel) ⟨Nat.le_of_ble_eq_true rfl, Nat.le_of_ble_eq_true rfl⟩) hP hK hN [] rfl rfl hl.1 rfl (Nat.le_of_ble_eq_true rfl) dX10_isNumber_21 ⟨Nat.le_of_ble_eq_true rfl, Nat.le_of_ble_eq_true rfl⟩ (fun r14 h15 => ?_)
    have h15 : ((((r14 = 1) ∧ (least.toInt ≤ mnum_c8.toInt) ∧ (mnum_c8.toInt ≤ most.toInt)) ∨ ((r14 = 0) ∧ (mnum_c8.toInt < least.toInt ∨ most.toInt < mnum_c8.toInt)))) := h15
    rcases h15 with (⟨rfl, h15_a0, h15_a1⟩ | ⟨rfl, h15_a0⟩)
    · refine lv_if_ne (tgt := 32) hx hb dX10_isNumber_24 (by decide) (fun _ => ?_) (fun c9 => absurd c9 (by decide))
      refine lv_aload_n hx hb dX10_isNumber_32 rfl (lv_at hl 0 rfl) ?_
      refine va_get (D := (dC, dI)) (ci := 10) (v := .ref (b 28)) (C := RX10) (T := TX10) (N := 39) hx hb hts inX10 hown hK hP 0 rfl rfl 28 (by decide) lf65 (fun _ h9 => h9) rfl dX10_isNumber_33 ?_
      refine lv_iload_n hx hb dX10_isNumber_36 rfl (lv_at hl 1 rfl) ?_
      refine lv_aload_n hx hb dX10_isNumber_37 rfl (lv_at hl 0 rfl) ?_
      refine va_get (D := (dC, dI)) (ci := 10) (v := .int mnum_c8) (C := RX10) (T := TX10) (N := 39) hx hb hts inX10 hown hK hP 0 rfl rfl 25 (by decide) lf155 (fun _ h9 => h9) rfl dX10_isNumber_38 ?_
      have b16 : vp_in at_ 30 := inC rfl (by omega) (by omega)
      refine va_iast hx hb hK hP hD hS 17 0 rfl rfl b16 dX10_isNumber_41 (fun H locs hP hD hS => ?_)
      obtain ⟨mrea_u17, emrea_u17⟩ : ∃ f : Nat → Int32, f = upd mrea at_.toNatClampNeg mnum_c8 := ⟨_, rfl⟩
      have hP : va_P (dC, dI) vwCl (wMod cI cZ cQ b mday mdoo mdA mdB mfar mmar mtel mgai mfal mtop mstr mgho mfai mpto mwal mahd mahf mcho mbes mbyt mtxt mpos_c4 mtka_c5 mtok_c6 mdig_c7 mnum_c8 mfau mrdm mrea_u17 mlin mlne mthg mord mbor mbsm mans mand manr mali) H := by rw [emrea_u17]; exact hP
      have hD : va_D A (wMod cI cZ cQ b mday mdoo mdA mdB mfar mmar mtel mgai mfal mtop mstr mgho mfai mpto mwal mahd mahf mcho mbes mbyt mtxt mpos_c4 mtka_c5 mtok_c6 mdig_c7 mnum_c8 mfau mrdm mrea_u17 mlin mlne mthg mord mbor mbsm mans mand manr mali) := by rw [emrea_u17]; exact hD
      refine lv_iconst (v := 1) hx hb dX10_isNumber_42 (by decide) ?_
      exact W.zret (v := 1) hx hb hr (by decide) (fun tq ht hW => ⟨⟨1, (uS [(fun _ => mpos_c4), (fun _ => mtka_c5), (fun _ => 0), (fun _ => mdig_c7), (fun _ => mnum_c8), (fun _ => mfau), mrea_u17] mtok_c6 (fun _ => 0)), rfl, ⟨(Or.inl rfl), (show mpos_c4.toInt ≤ mbyt.toInt from by (try rw [show (1 : Int32).toInt = 1 from (show (1 : Int32).toInt = 1 from rfl)]); omega), h2_1⟩, by rw [ht]; exact hP, hD⟩, hS.F ht⟩) hS.2.2 dX10_isNumber_43
    · refine lv_if_ne (tgt := 32) hx hb dX10_isNumber_24 (by decide) (fun c9 => absurd (by decide) c9) (fun _ => ?_)
      refine lv_aload_n hx hb dX10_isNumber_27 rfl (lv_at hl 0 rfl) ?_
      refine wrV (As := []) (rest := []) (wr := []) (w2 := (fun u : US => (wMod cI cZ cQ b mday mdoo mdA mdB mfar mmar mtel mgai mfal mtop mstr mgho mfai mpto mwal mahd mahf mcho mbes mbyt mtxt mpos_c4 mtka_c5 mtok_c6 mdig_c7 mnum_c8 (u.1 0 0) mrdm mrea mlin mlne mthg mord mbor mbsm mans mand manr mali))) ⟨hx, hb, hml, hown, hts⟩ (k_X10_fails l dC dI cI cZ cQ b mday mdoo mdA mdB mfar mmar mtel mgai mfal mtop mstr mgho mfai mpto mwal mahd mahf mcho mbes mbyt mtxt mpos_c4 mtka_c5 mtok_c6 mdig_c7 mnum_c8 mfau mrdm mrea mlin mlne mthg mord mbor mbsm mans mand manr mali _ r_mday r_mdoo r_mdA r_mdB r_mmar r_mgai r_mfal r_mtop r_mstr r_mgho r_mfai r_mahd r_mahf r_mcho r_mbyt h2_1 r_mrdm r_mlin r_mthg r_mord r_mans) (cwV 0 hts gX10_isNumber_X10_fails rfl rfl rfl (by decide +kernel) ⟨Nat.le_of_ble_eq_true rfl, Nat.le_of_ble_eq_true rfl⟩) hP hD hS hA hK hN [0, 1, 2, 3, 4, 5, 6, 7, 8, 9, 10, 11, 12, 13, 14, 15, 16, 17, 18, 19, 20, 21, 22, 23, 24, 25] [] [0, 1, 2, 3, 4, 5, 6, 7, 8, 9, 10, 11, 12, 13, 14, 15, 16, 17, 18, 19, 20, 21, 22, 23, 24, 25] rfl rfl (by decide) (by decide) (by decide) (fun _ => rfl) (by decide) 0 10 rfl rfl rfl hl.1 rfl (Nat.le_of_ble_eq_true rfl) dX10_isNumber_28 ⟨Nat.le_of_ble_eq_true rfl, Nat.le_of_ble_eq_true rfl⟩ (fun r18 u20 H locs h19 hP hD hS => ?_)
      obtain ⟨mfau_c21, emfau_c21⟩ : ∃ f : Int32, f = (u20.1 0 0) := ⟨_, rfl⟩
      have hP : va_P (dC, dI) vwCl (wMod cI cZ cQ b mday mdoo mdA mdB mfar mmar mtel mgai mfal mtop mstr mgho mfai mpto mwal mahd mahf mcho mbes mbyt mtxt mpos_c4 mtka_c5 mtok_c6 mdig_c7 mnum_c8 mfau_c21 mrdm mrea mlin mlne mthg mord mbor mbsm mans mand manr mali) H := by rw [emfau_c21]; exact hP
      have hD : va_D A (wMod cI cZ cQ b mday mdoo mdA mdB mfar mmar mtel mgai mfal mtop mstr mgho mfai mpto mwal mahd mahf mcho mbes mbyt mtxt mpos_c4 mtka_c5 mtok_c6 mdig_c7 mnum_c8 mfau_c21 mrdm mrea mlin mlne mthg mord mbor mbsm mans mand manr mali) := by rw [emfau_c21]; exact hD
      have h19 : ((((r18 = 0)))) := by (try rw [emfau_c21]); exact h19
      rcases h19 with (rfl)
      · exact W.zret (v := 0) hx hb hr (by decide) (fun tq ht hW => ⟨⟨0, (uS [(fun _ => mpos_c4), (fun _ => mtka_c5), (fun _ => 0), (fun _ => mdig_c7), (fun _ => mnum_c8), (fun _ => mfau_c21), mrea] mtok_c6 (fun _ => 0)), rfl, ⟨(Or.inr rfl), (show mpos_c4.toInt ≤ mbyt.toInt from by (try rw [show (0 : Int32).toInt = 0 from (show (0 : Int32).toInt = 0 from rfl)]); omega), h2_1⟩, by rw [ht]; exact hP, hD⟩, hS.F ht⟩) hS.2.2 dX10_isNumber_31
set_option maxHeartbeats 4000000 in
set_option maxRecDepth 100000 in
theorem k_X10_isWord (l : Launch) (dC : Nat → ClassId) (dI : Nat → Nat → Nat) (cI cZ cQ : ClassId) (b : Nat → Nat) (mday : Int32) (mdoo : Int32) (mdA : Nat → Int32) (mdB : Nat → Int32) (mfar : Nat → Int32) (mmar : Nat → Int32) (mtel : Int32) (mgai : Int32) (mfal : Nat → Int32) (mtop : Nat → Int32) (mstr : Nat → Int32) (mgho : Nat → Int32) (mfai : Nat → Int32) (mpto : Nat → Int32) (mwal : Nat → Int32) (mahd : Nat → Int32) (mahf : Nat → Int32) (mcho : Nat → Int32) (mbes : Nat → Int32) (mbyt : Int32) (mtxt : Nat → Int32) (mpos : Int32) (mtka : Int32) (mtok : Int64) (mdig : Int32) (mnum : Int32) (mfau : Int32) (mrdm : Int32) (mrea : Nat → Int32) (mlin : Int32) (mlne : Nat → Int32) (mthg : Nat → Int32) (mord : Nat → Int32) (mbor : Nat → Int32) (mbsm : Int32) (mans : Nat → Int32) (mand : Nat → Int32) (manr : Nat → Int32) (mali : Nat → Int32) (sz : Nat) (w : Int64) (r_mday : 0 ≤ mday.toInt ∧ mday.toInt ≤ 400) (r_mdoo : 0 ≤ mdoo.toInt ∧ mdoo.toInt ≤ 14) (r_mdA : rg 14 (0) (7) mdA) (r_mdB : rg 14 (0) (7) mdB) (r_mmar : rg 24 (0) (255) mmar) (r_mgai : 0 ≤ mgai.toInt ∧ mgai.toInt ≤ 100) (r_mfal : rg 11 (0) (30) mfal) (r_mtop : rg 48 (-1) (23) mtop) (r_mstr : rg 48 (0) (100) mstr) (r_mgho : rg 48 (-1) (23) mgho) (r_mfai : rg 48 (0) (100) mfai) (r_mahd : rg 240 (0) (100) mahd) (r_mahf : rg 240 (0) (100) mahf) (r_mcho : rg 5 (-1) (9) mcho) (r_mbyt : 0 ≤ mbyt.toInt ∧ mbyt.toInt ≤ 160) (r_mpos : 0 ≤ mpos.toInt ∧ mpos.toInt ≤ 160) (r_mrdm : 0 ≤ mrdm.toInt ∧ mrdm.toInt ≤ 10) (r_mlin : 0 ≤ mlin.toInt ∧ mlin.toInt ≤ 10) (r_mthg : rg 8 (0) (31) mthg) (r_mord : rg 8 (-1) (8) mord) (r_mans : rg 4 (0) (12) mans) (q0 : mpos.toInt ≤ mbyt.toInt) : KW l yX10_isWord wsX10_isWord { frames := 2, cells := 0, slots := 0, locals := 42 } (dC, dI) (TY cI cZ cQ) (wMod cI cZ cQ b mday mdoo mdA mdB mfar mmar mtel mgai mfal mtop mstr mgho mfai mpto mwal mahd mahf mcho mbes mbyt mtxt mpos mtka mtok mdig mnum mfau mrdm mrea mlin mlne mthg mord mbor mbsm mans mand manr mali) [.ref (b 39), .long w] sz 0 0 (fun (r : Int32) (u : US) => ((((r = 1)) ∨ ((r = 0)))) ∧ ((u.1 0 0).toInt ≤ mbyt.toInt) ∧ (0 ≤ (u.1 0 0).toInt ∧ (u.1 0 0).toInt ≤ 160)) (fun u : US => (wMod cI cZ cQ b mday mdoo mdA mdB mfar mmar mtel mgai mfal mtop mstr mgho mfai mpto mwal mahd mahf mcho mbes mbyt mtxt (u.1 0 0) (u.1 1 0) u.2.1 (u.1 3 0) (u.1 4 0) (u.1 5 0) mrdm mrea mlin mlne mthg mord mbor mbsm mans mand manr mali)) := by
  refine Met.ofW (cc := cX10_isWord) (maxL := 3) (ret := (some .boolean)) (by decide) rfl ?_
  intro p e s m args below meth c s₁ B hml hv
  obtain ⟨rfl, hsz, hP, hK, hD0, hN⟩ := hv
  have hx := B.exec
  have hb := B.bytes
  have hr := B.returns
  have hts := atoms_spec (ws := wsX10_isWord) B.pre
  have hown : s.vm.findClass RX10 = some m.cls := findClass_of_methodNamed B.named
  have hlocks := B.notSynchronized
  have lf160 := hts (.fieldLink RX10 160 "PalaceOfRoomsModel" "token" "J") (by decide +kernel)
  have inX10 : ∀ w ∈ wsX100, w ∈ wsX10_isWord := fun w h => List.mem_cons_of_mem _ (List.mem_append_right _ h)
  subst hsz
  have hD := hD0.self (sz := s.heap.size)
  generalize hAe : va_A (wMod cI cZ cQ b mday mdoo mdA mdB mfar mmar mtel mgai mfal mtop mstr mgho mfai mpto mwal mahd mahf mcho mbes mbyt mtxt mpos mtka mtok mdig mnum mfau mrdm mrea mlin mlne mthg mord mbor mbsm mans mand manr mali) s.heap.size = A at hD ⊢
  have hA : ∀ q : Nat, s.heap.size ≤ q → A q := fun q h => by rw [← hAe]; exact Or.inr h
  have hS : va_S A s.heap s.heap [] := va_S.rf
  have hl := lv_entry ([.ref (b 39), .long w]) (n := 3) (Nat.le_of_ble_eq_true rfl)
  rw [lg_entry_eq]
  generalize (lg_sl ([.ref (b 39), .long w]) ++ List.replicate (3 - (lg_sl ([.ref (b 39), .long w])).length) Slot.unset).toArray = ls at hl ⊢
  have hl : lv_has ls 3 [(0, .ref (b 39)), (1, .long w)] := hl
  refine lv_aload_n hx hb dX10_isWord_0 rfl (lv_at hl 0 rfl) ?_
  refine wvV (As := []) (rest := []) (wr := []) (w2 := (fun u : US => (wMod cI cZ cQ b mday mdoo mdA mdB mfar mmar mtel mgai mfal mtop mstr mgho mfai mpto mwal mahd mahf mcho mbes mbyt mtxt (u.1 0 0) (u.1 1 0) u.2.1 (u.1 3 0) (u.1 4 0) mfau mrdm mrea mlin mlne mthg mord mbor mbsm mans mand manr mali))) ⟨hx, hb, hml, hown, hts⟩ (k_X10_nextToken l dC dI cI cZ cQ b mday mdoo mdA mdB mfar mmar mtel mgai mfal mtop mstr mgho mfai mpto mwal mahd mahf mcho mbes mbyt mtxt mpos mtka mtok mdig mnum mfau mrdm mrea mlin mlne mthg mord mbor mbsm mans mand manr mali _ r_mday r_mdoo r_mdA r_mdB r_mmar r_mgai r_mfal r_mtop r_mstr r_mgho r_mfai r_mahd r_mahf r_mcho r_mbyt r_mpos r_mrdm r_mlin r_mthg r_mord r_mans (by omega)) (cwV 0 hts gX10_isWord_X10_nextToken rfl rfl rfl (by decide +kernel) ⟨Nat.le_of_ble_eq_true rfl, Nat.le_of_ble_eq_true rfl⟩) hP hD hS hA hK hN [0, 1, 2, 3, 4, 5, 6, 7, 8, 9, 10, 11, 12, 13, 14, 15, 16, 17, 18, 19, 20, 21, 22, 23, 24, 25] [] [0, 1, 2, 3, 4, 5, 6, 7, 8, 9, 10, 11, 12, 13, 14, 15, 16, 17, 18, 19, 20, 21, 22, 23, 24, 25] rfl rfl (by decide) (by decide) (by decide) (fun _ => rfl) (by decide) 0 10 rfl rfl rfl hl.1 rfl (Nat.le_of_ble_eq_true rfl) dX10_isWord_1 ⟨Nat.le_of_ble_eq_true rfl, Nat.le_of_ble_eq_true rfl⟩ (fun u3 H locs h2 hP hD hS => ?_)
  obtain ⟨mpos_c4, empos_c4⟩ : ∃ f : Int32, f = (u3.1 0 0) := ⟨_, rfl⟩
  obtain ⟨mtka_c5, emtka_c5⟩ : ∃ f : Int32, f = (u3.1 1 0) := ⟨_, rfl⟩
  obtain ⟨mtok_c6, emtok_c6⟩ : ∃ f : Int64, f = u3.2.1 := ⟨_, rfl⟩
  obtain ⟨mdig_c7, emdig_c7⟩ : ∃ f : Int32, f = (u3.1 3 0) := ⟨_, rfl⟩
  obtain ⟨mnum_c8, emnum_c8⟩ : ∃ f : Int32, f = (u3.1 4 0) := ⟨_, rfl⟩
  have hP : va_P (dC, dI) vwCl (wMod cI cZ cQ b mday mdoo mdA mdB mfar mmar mtel mgai mfal mtop mstr mgho mfai mpto mwal mahd mahf mcho mbes mbyt mtxt mpos_c4 mtka_c5 mtok_c6 mdig_c7 mnum_c8 mfau mrdm mrea mlin mlne mthg mord mbor mbsm mans mand manr mali) H := by rw [empos_c4, emtka_c5, emtok_c6, emdig_c7, emnum_c8]; exact hP
  have hD : va_D A (wMod cI cZ cQ b mday mdoo mdA mdB mfar mmar mtel mgai mfal mtop mstr mgho mfai mpto mwal mahd mahf mcho mbes mbyt mtxt mpos_c4 mtka_c5 mtok_c6 mdig_c7 mnum_c8 mfau mrdm mrea mlin mlne mthg mord mbor mbsm mans mand manr mali) := by rw [empos_c4, emtka_c5, emtok_c6, emdig_c7, emnum_c8]; exact hD
  have h2 : (mpos_c4.toInt ≤ mbyt.toInt) ∧ (0 ≤ mpos_c4.toInt ∧ mpos_c4.toInt ≤ 160) := by (try rw [empos_c4]); (try rw [emtka_c5]); (try rw [emtok_c6]); (try rw [emdig_c7]); (try rw [emnum_c8]); exact h2
  obtain ⟨h2_0, h2_1⟩ := h2
  refine lv_aload_n hx hb dX10_isWord_4 rfl (lv_at hl 0 rfl) ?_
  refine va_get (D := (dC, dI)) (ci := 10) (v := .long mtok_c6) (C := RX10) (T := TX10) (N := 39) hx hb hts inX10 hown hK hP 0 rfl rfl 23 (by decide) lf160 (fun _ h9 => h9) rfl dX10_isWord_5 ?_
  refine lv_lload_n hx hb dX10_isWord_8 rfl (lv_at hl 1 rfl) ?_
  refine W.lcmp hx hb dX10_isWord_9 ?_
  refine lv_if_eq (tgt := 20) hx hb dX10_isWord_10 (by decide) (fun c9 => ?_) (fun c9 => ?_)
  · have dc9 : (lg_cmp mtok_c6 w).toInt = 0 := eqC rfl (show (0 : Int32).toInt = 0 from rfl) c9
    refine lv_iconst (v := 1) hx hb dX10_isWord_20 (by decide) ?_
    refine lv_goto (tgt := 25) hx hb dX10_isWord_21 (by decide) ?_
    exact W.zret (v := 1) hx hb hr (by decide) (fun tq ht hW => ⟨⟨1, (uS [(fun _ => mpos_c4), (fun _ => mtka_c5), (fun _ => 0), (fun _ => mdig_c7), (fun _ => mnum_c8), (fun _ => mfau)] mtok_c6 (fun _ => 0)), rfl, ⟨(Or.inl rfl), (show mpos_c4.toInt ≤ mbyt.toInt from by (try rw [show (1 : Int32).toInt = 1 from (show (1 : Int32).toInt = 1 from rfl)]); omega), h2_1⟩, by rw [ht]; exact hP, hD⟩, hS.F ht⟩) hS.2.2 dX10_isWord_25
  · have dc9 : (lg_cmp mtok_c6 w).toInt ≠ 0 := neC rfl (show (0 : Int32).toInt = 0 from rfl) c9
    refine lv_aload_n hx hb dX10_isWord_13 rfl (lv_at hl 0 rfl) ?_
    refine wrV (As := []) (rest := []) (wr := []) (w2 := (fun u : US => (wMod cI cZ cQ b mday mdoo mdA mdB mfar mmar mtel mgai mfal mtop mstr mgho mfai mpto mwal mahd mahf mcho mbes mbyt mtxt mpos_c4 mtka_c5 mtok_c6 mdig_c7 mnum_c8 (u.1 0 0) mrdm mrea mlin mlne mthg mord mbor mbsm mans mand manr mali))) ⟨hx, hb, hml, hown, hts⟩ (k_X10_fails l dC dI cI cZ cQ b mday mdoo mdA mdB mfar mmar mtel mgai mfal mtop mstr mgho mfai mpto mwal mahd mahf mcho mbes mbyt mtxt mpos_c4 mtka_c5 mtok_c6 mdig_c7 mnum_c8 mfau mrdm mrea mlin mlne mthg mord mbor mbsm mans mand manr mali _ r_mday r_mdoo r_mdA r_mdB r_mmar r_mgai r_mfal r_mtop r_mstr r_mgho r_mfai r_mahd r_mahf r_mcho r_mbyt h2_1 r_mrdm r_mlin r_mthg r_mord r_mans) (cwV 0 hts gX10_isWord_X10_fails rfl rfl rfl (by decide +kernel) ⟨Nat.le_of_ble_eq_true rfl, Nat.le_of_ble_eq_true rfl⟩) hP hD hS hA hK hN [0, 1, 2, 3, 4, 5, 6, 7, 8, 9, 10, 11, 12, 13, 14, 15, 16, 17, 18, 19, 20, 21, 22, 23, 24, 25] [] [0, 1, 2, 3, 4, 5, 6, 7, 8, 9, 10, 11, 12, 13, 14, 15, 16, 17, 18, 19, 20, 21, 22, 23, 24, 25] rfl rfl (by decide) (by decide) (by decide) (fun _ => rfl) (by decide) 0 10 rfl rfl rfl hl.1 rfl (Nat.le_of_ble_eq_true rfl) dX10_isWord_14 ⟨Nat.le_of_ble_eq_true rfl, Nat.le_of_ble_eq_true rfl⟩ (fun r10 u12 H locs h11 hP hD hS => ?_)
    obtain ⟨mfau_c13, emfau_c13⟩ : ∃ f : Int32, f = (u12.1 0 0) := ⟨_, rfl⟩
    have hP : va_P (dC, dI) vwCl (wMod cI cZ cQ b mday mdoo mdA mdB mfar mmar mtel mgai mfal mtop mstr mgho mfai mpto mwal mahd mahf mcho mbes mbyt mtxt mpos_c4 mtka_c5 mtok_c6 mdig_c7 mnum_c8 mfau_c13 mrdm mrea mlin mlne mthg mord mbor mbsm mans mand manr mali) H := by rw [emfau_c13]; exact hP
    have hD : va_D A (wMod cI cZ cQ b mday mdoo mdA mdB mfar mmar mtel mgai mfal mtop mstr mgho mfai mpto mwal mahd mahf mcho mbes mbyt mtxt mpos_c4 mtka_c5 mtok_c6 mdig_c7 mnum_c8 mfau_c13 mrdm mrea mlin mlne mthg mord mbor mbsm mans mand manr mali) := by rw [emfau_c13]; exact hD
    have h11 : ((((r10 = 0)))) := by (try rw [emfau_c13]); exact h11
    rcases h11 with (rfl)
    · refine lv_if_eq (tgt := 24) hx hb dX10_isWord_17 (by decide) (fun _ => ?_) (fun c9 => absurd (by decide) c9)
      refine lv_iconst (v := 0) hx hb dX10_isWord_24 (by decide) ?_
      exact W.zret (v := 0) hx hb hr (by decide) (fun tq ht hW => ⟨⟨0, (uS [(fun _ => mpos_c4), (fun _ => mtka_c5), (fun _ => 0), (fun _ => mdig_c7), (fun _ => mnum_c8), (fun _ => mfau_c13)] mtok_c6 (fun _ => 0)), rfl, ⟨(Or.inr rfl), (show mpos_c4.toInt ≤ mbyt.toInt from by (try rw [show (0 : Int32).toInt = 0 from (show (0 : Int32).toInt = 0 from rfl)]); omega), h2_1⟩, by rw [ht]; exact hP, hD⟩, hS.F ht⟩) hS.2.2 dX10_isWord_25
set_option maxHeartbeats 4000000 in
set_option maxRecDepth 100000 in
theorem k_X10_isLine (l : Launch) (dC : Nat → ClassId) (dI : Nat → Nat → Nat) (cI cZ cQ : ClassId) (b : Nat → Nat) (mday : Int32) (mdoo : Int32) (mdA : Nat → Int32) (mdB : Nat → Int32) (mfar : Nat → Int32) (mmar : Nat → Int32) (mtel : Int32) (mgai : Int32) (mfal : Nat → Int32) (mtop : Nat → Int32) (mstr : Nat → Int32) (mgho : Nat → Int32) (mfai : Nat → Int32) (mpto : Nat → Int32) (mwal : Nat → Int32) (mahd : Nat → Int32) (mahf : Nat → Int32) (mcho : Nat → Int32) (mbes : Nat → Int32) (mbyt : Int32) (mtxt : Nat → Int32) (mpos : Int32) (mtka : Int32) (mtok : Int64) (mdig : Int32) (mnum : Int32) (mfau : Int32) (mrdm : Int32) (mrea : Nat → Int32) (mlin : Int32) (mlne : Nat → Int32) (mthg : Nat → Int32) (mord : Nat → Int32) (mbor : Nat → Int32) (mbsm : Int32) (mans : Nat → Int32) (mand : Nat → Int32) (manr : Nat → Int32) (mali : Nat → Int32) (sz : Nat) (at_ : Int32) (r_mday : 0 ≤ mday.toInt ∧ mday.toInt ≤ 400) (r_mdoo : 0 ≤ mdoo.toInt ∧ mdoo.toInt ≤ 14) (r_mdA : rg 14 (0) (7) mdA) (r_mdB : rg 14 (0) (7) mdB) (r_mmar : rg 24 (0) (255) mmar) (r_mgai : 0 ≤ mgai.toInt ∧ mgai.toInt ≤ 100) (r_mfal : rg 11 (0) (30) mfal) (r_mtop : rg 48 (-1) (23) mtop) (r_mstr : rg 48 (0) (100) mstr) (r_mgho : rg 48 (-1) (23) mgho) (r_mfai : rg 48 (0) (100) mfai) (r_mahd : rg 240 (0) (100) mahd) (r_mahf : rg 240 (0) (100) mahf) (r_mcho : rg 5 (-1) (9) mcho) (r_mbyt : 0 ≤ mbyt.toInt ∧ mbyt.toInt ≤ 160) (r_mpos : 0 ≤ mpos.toInt ∧ mpos.toInt ≤ 160) (r_mrdm : 0 ≤ mrdm.toInt ∧ mrdm.toInt ≤ 10) (r_mlin : 0 ≤ mlin.toInt ∧ mlin.toInt ≤ 10) (r_mthg : rg 8 (0) (31) mthg) (r_mord : rg 8 (-1) (8) mord) (r_mans : rg 4 (0) (12) mans) (q0 : 0 ≤ at_.toInt) (q1 : at_.toInt ≤ 27) (q2 : mpos.toInt ≤ mbyt.toInt) : KW l yX10_isLine wsX10_isLine { frames := 3, cells := 0, slots := 0, locals := 65 } (dC, dI) (TY cI cZ cQ) (wMod cI cZ cQ b mday mdoo mdA mdB mfar mmar mtel mgai mfal mtop mstr mgho mfai mpto mwal mahd mahf mcho mbes mbyt mtxt mpos mtka mtok mdig mnum mfau mrdm mrea mlin mlne mthg mord mbor mbsm mans mand manr mali) [.ref (b 39), .int at_] sz 0 0 (fun (r : Int32) (u : US) => ((((r = 1)) ∨ ((r = 0)))) ∧ ((u.1 0 0).toInt ≤ mbyt.toInt) ∧ (0 ≤ (u.1 0 0).toInt ∧ (u.1 0 0).toInt ≤ 160)) (fun u : US => (wMod cI cZ cQ b mday mdoo mdA mdB mfar mmar mtel mgai mfal mtop mstr mgho mfai mpto mwal mahd mahf mcho mbes mbyt mtxt (u.1 0 0) (u.1 1 0) u.2.1 (u.1 3 0) (u.1 4 0) (u.1 5 0) mrdm (u.1 6) mlin mlne mthg mord mbor mbsm mans mand manr mali)) := by
  refine Met.ofW (cc := cX10_isLine) (maxL := 2) (ret := (some .boolean)) (by decide) rfl ?_
  intro p e s m args below meth c s₁ B hml hv
  obtain ⟨rfl, hsz, hP, hK, hD0, hN⟩ := hv
  have hx := B.exec
  have hb := B.bytes
  have hr := B.returns
  have hts := atoms_spec (ws := wsX10_isLine) B.pre
  have hown : s.vm.findClass RX10 = some m.cls := findClass_of_methodNamed B.named
  have hlocks := B.notSynchronized
  have lf65 := hts (.fieldLink RX10 65 "PalaceOfRoomsModel" "read" "[I") (by decide +kernel)
  have inX10 : ∀ w ∈ wsX100, w ∈ wsX10_isLine := fun w h => List.mem_cons_of_mem _ (List.mem_append_right _ h)
  have lf160 := hts (.fieldLink RX10 160 "PalaceOfRoomsModel" "token" "J") (by decide +kernel)
  subst hsz
  have hD := hD0.self (sz := s.heap.size)
  generalize hAe : va_A (wMod cI cZ cQ b mday mdoo mdA mdB mfar mmar mtel mgai mfal mtop mstr mgho mfai mpto mwal mahd mahf mcho mbes mbyt mtxt mpos mtka mtok mdig mnum mfau mrdm mrea mlin mlne mthg mord mbor mbsm mans mand manr mali) s.heap.size = A at hD ⊢
  have hA : ∀ q : Nat, s.heap.size ≤ q → A q := fun q h => by rw [← hAe]; exact Or.inr h
  have hS : va_S A s.heap s.heap [] := va_S.rf
  have hl := lv_entry ([.ref (b 39), .int at_]) (n := 2) (Nat.le_of_ble_eq_true rfl)
  rw [lg_entry_eq]
  generalize (lg_sl ([.ref (b 39), .int at_]) ++ List.replicate (2 - (lg_sl ([.ref (b 39), .int at_])).length) Slot.unset).toArray = ls at hl ⊢
  have hl : lv_has ls 2 [(0, .ref (b 39)), (1, .int at_)] := hl
  refine lv_aload_n hx hb dX10_isLine_0 rfl (lv_at hl 0 rfl) ?_
  refine wvV (As := []) (rest := []) (wr := []) (w2 := (fun u : US => (wMod cI cZ cQ b mday mdoo mdA mdB mfar mmar mtel mgai mfal mtop mstr mgho mfai mpto mwal mahd mahf mcho mbes mbyt mtxt (u.1 0 0) (u.1 1 0) u.2.1 (u.1 3 0) (u.1 4 0) mfau mrdm mrea mlin mlne mthg mord mbor mbsm mans mand manr mali))) ⟨hx, hb, hml, hown, hts⟩ (k_X10_nextToken l dC dI cI cZ cQ b mday mdoo mdA mdB mfar mmar mtel mgai mfal mtop mstr mgho mfai mpto mwal mahd mahf mcho mbes mbyt mtxt mpos mtka mtok mdig mnum mfau mrdm mrea mlin mlne mthg mord mbor mbsm mans mand manr mali _ r_mday r_mdoo r_mdA r_mdB r_mmar r_mgai r_mfal r_mtop r_mstr r_mgho r_mfai r_mahd r_mahf r_mcho r_mbyt r_mpos r_mrdm r_mlin r_mthg r_mord r_mans (by omega)) (cwV 0 hts gX10_isLine_X10_nextToken rfl rfl rfl (by decide +kernel) ⟨Nat.le_of_ble_eq_true rfl, Nat.le_of_ble_eq_true rfl⟩) hP hD hS hA hK hN [0, 1, 2, 3, 4, 5, 6, 7, 8, 9, 10, 11, 12, 13, 14, 15, 16, 17, 18, 19, 20, 21, 22, 23, 24, 25] [] [0, 1, 2, 3, 4, 5, 6, 7, 8, 9, 10, 11, 12, 13, 14, 15, 16, 17, 18, 19, 20, 21, 22, 23, 24, 25] rfl rfl (by decide) (by decide) (by decide) (fun _ => rfl) (by decide) 0 10 rfl rfl rfl hl.1 rfl (Nat.le_of_ble_eq_true rfl) dX10_isLine_1 ⟨Nat.le_of_ble_eq_true rfl, Nat.le_of_ble_eq_true rfl⟩ (fun u3 H locs h2 hP hD hS => ?_)
  obtain ⟨mpos_c4, empos_c4⟩ : ∃ f : Int32, f = (u3.1 0 0) := ⟨_, rfl⟩
  obtain ⟨mtka_c5, emtka_c5⟩ : ∃ f : Int32, f = (u3.1 1 0) := ⟨_, rfl⟩
  obtain ⟨mtok_c6, emtok_c6⟩ : ∃ f : Int64, f = u3.2.1 := ⟨_, rfl⟩
  obtain ⟨mdig_c7, emdig_c7⟩ : ∃ f : Int32, f = (u3.1 3 0) := ⟨_, rfl⟩
  obtain ⟨mnum_c8, emnum_c8⟩ : ∃ f : Int32, f = (u3.1 4 0) := ⟨_, rfl⟩
  have hP : va_P (dC, dI) vwCl (wMod cI cZ cQ b mday mdoo mdA mdB mfar mmar mtel mgai mfal mtop mstr mgho mfai mpto mwal mahd mahf mcho mbes mbyt mtxt mpos_c4 mtka_c5 mtok_c6 mdig_c7 mnum_c8 mfau mrdm mrea mlin mlne mthg mord mbor mbsm mans mand manr mali) H := by rw [empos_c4, emtka_c5, emtok_c6, emdig_c7, emnum_c8]; exact hP
  have hD : va_D A (wMod cI cZ cQ b mday mdoo mdA mdB mfar mmar mtel mgai mfal mtop mstr mgho mfai mpto mwal mahd mahf mcho mbes mbyt mtxt mpos_c4 mtka_c5 mtok_c6 mdig_c7 mnum_c8 mfau mrdm mrea mlin mlne mthg mord mbor mbsm mans mand manr mali) := by rw [empos_c4, emtka_c5, emtok_c6, emdig_c7, emnum_c8]; exact hD
  have h2 : (mpos_c4.toInt ≤ mbyt.toInt) ∧ (0 ≤ mpos_c4.toInt ∧ mpos_c4.toInt ≤ 160) := by (try rw [empos_c4]); (try rw [emtka_c5]); (try rw [emtok_c6]); (try rw [emdig_c7]); (try rw [emnum_c8]); exact h2
  obtain ⟨h2_0, h2_1⟩ := h2
  have L71 : ∀ (mrea_71 : Nat → Int32) (H : Heap) (locs : List Loc) (ls : Array Slot), va_P (dC, dI) vwCl (wMod cI cZ cQ b mday mdoo mdA mdB mfar mmar mtel mgai mfal mtop mstr mgho mfai mpto mwal mahd mahf mcho mbes mbyt mtxt mpos_c4 mtka_c5 mtok_c6 mdig_c7 mnum_c8 mfau mrdm mrea_71 mlin mlne mthg mord mbor mbsm mans mand manr mali) H → va_D A (wMod cI cZ cQ b mday mdoo mdA mdB mfar mmar mtel mgai mfal mtop mstr mgho mfai mpto mwal mahd mahf mcho mbes mbyt mtxt mpos_c4 mtka_c5 mtok_c6 mdig_c7 mnum_c8 mfau mrdm mrea_71 mlin mlne mthg mord mbor mbsm mans mand manr mali) → va_S A s.heap H locs → lv_has ls 2 [(0, .ref (b 39)), (1, .int at_)] → W p l e (headSpec wsX10_isLine { frames := 3, cells := 0, slots := 0, locals := 65 }).room s m ([.ref (b 39), .int at_] : List Value).toArray below meth c H locs 0 0 (MQ below (va_Qi (fun (r : Int32) (u : US) => ((((r = 1)) ∨ ((r = 0)))) ∧ ((u.1 0 0).toInt ≤ mbyt.toInt) ∧ (0 ≤ (u.1 0 0).toInt ∧ (u.1 0 0).toInt ≤ 160)) (Bw (dC, dI) A (fun u : US => (wMod cI cZ cQ b mday mdoo mdA mdB mfar mmar mtel mgai mfal mtop mstr mgho mfai mpto mwal mahd mahf mcho mbes mbyt mtxt (u.1 0 0) (u.1 1 0) u.2.1 (u.1 3 0) (u.1 4 0) (u.1 5 0) mrdm (u.1 6) mlin mlne mthg mord mbor mbsm mans mand manr mali))) A) ([.ref (b 39), .int at_] : List Value).toArray s 0 0 A) (F0 m 71 ls []) := by
    intro mrea_71 H locs ls  hP hD hS hl
    refine lv_aload_n hx hb dX10_isLine_71 rfl (lv_at hl 0 rfl) ?_
    refine va_get (D := (dC, dI)) (ci := 10) (v := .ref (b 28)) (C := RX10) (T := TX10) (N := 39) hx hb hts inX10 hown hK hP 0 rfl rfl 28 (by decide) lf65 (fun _ h9 => h9) rfl dX10_isLine_72 ?_
    refine lv_iload_n hx hb dX10_isLine_75 rfl (lv_at hl 1 rfl) ?_
    refine lv_iconst (v := 1) hx hb dX10_isLine_76 (by decide) ?_
    refine lv_iadd hx hb dX10_isLine_77 ?_
    have f9 : (at_ + 1).toInt = (at_.toInt) + (1) := addC rfl (show (1 : Int32).toInt = 1 from rfl) (by omega) (by omega)
    refine lv_iconst (v := 0) hx hb dX10_isLine_78 (by decide) ?_
    have b10 : vp_in (at_ + 1) 30 := inC f9 (by omega) (by omega)
    refine va_iast hx hb hK hP hD hS 17 0 rfl rfl b10 dX10_isLine_79 (fun H locs hP hD hS => ?_)
    obtain ⟨mrea_u11, emrea_u11⟩ : ∃ f : Nat → Int32, f = upd mrea_71 (at_ + 1).toNatClampNeg 0 := ⟨_, rfl⟩
    have hP : va_P (dC, dI) vwCl (wMod cI cZ cQ b mday mdoo mdA mdB mfar mmar mtel mgai mfal mtop mstr mgho mfai mpto mwal mahd mahf mcho mbes mbyt mtxt mpos_c4 mtka_c5 mtok_c6 mdig_c7 mnum_c8 mfau mrdm mrea_u11 mlin mlne mthg mord mbor mbsm mans mand manr mali) H := by rw [emrea_u11]; exact hP
    have hD : va_D A (wMod cI cZ cQ b mday mdoo mdA mdB mfar mmar mtel mgai mfal mtop mstr mgho mfai mpto mwal mahd mahf mcho mbes mbyt mtxt mpos_c4 mtka_c5 mtok_c6 mdig_c7 mnum_c8 mfau mrdm mrea_u11 mlin mlne mthg mord mbor mbsm mans mand manr mali) := by rw [emrea_u11]; exact hD
    refine lv_aload_n hx hb dX10_isLine_80 rfl (lv_at hl 0 rfl) ?_
    refine va_get (D := (dC, dI)) (ci := 10) (v := .ref (b 28)) (C := RX10) (T := TX10) (N := 39) hx hb hts inX10 hown hK hP 0 rfl rfl 28 (by decide) lf65 (fun _ h9 => h9) rfl dX10_isLine_81 ?_
    refine lv_iload_n hx hb dX10_isLine_84 rfl (lv_at hl 1 rfl) ?_
    have b12 : vp_in at_ 30 := inC rfl (by omega) (by omega)
    refine va_iald hx hb hK hP 17 0 rfl rfl b12 dX10_isLine_85 ?_
    by_cases w13 : mrea_u11 at_.toNatClampNeg = 0
    · have dw13 : (mrea_u11 at_.toNatClampNeg).toInt = 0 := eqC rfl rfl w13
      refine lv_tableIn (off := 30) (tgt := 116) hx hb dX10_isLine_86 (by rw [w13]; decide) (by rw [w13]; decide) (by rw [w13]; decide) (by decide) ?_
      refine lv_aload_n hx hb dX10_isLine_116 rfl (lv_at hl 0 rfl) ?_
      refine lv_iload_n hx hb dX10_isLine_117 rfl (lv_at hl 1 rfl) ?_
      refine lv_iconst (v := 1) hx hb dX10_isLine_118 (by decide) ?_
      refine lv_iadd hx hb dX10_isLine_119 ?_
      have f14 : (at_ + 1).toInt = (at_.toInt) + (1) := addC rfl (show (1 : Int32).toInt = 1 from rfl) (by omega) (by omega)
      refine lv_iconst (v := 0) hx hb dX10_isLine_120 (by decide) ?_
      refine lv_bipush (v := 7) hx hb dX10_isLine_121 (by decide) ?_
      refine wrV (As := [.int (at_ + 1), .int 0, .int 7]) (rest := []) (wr := []) (w2 := (fun u : US => (wMod cI cZ cQ b mday mdoo mdA mdB mfar mmar mtel mgai mfal mtop mstr mgho mfai mpto mwal mahd mahf mcho mbes mbyt mtxt (u.1 0 0) (u.1 1 0) u.2.1 (u.1 3 0) (u.1 4 0) (u.1 5 0) mrdm (u.1 6) mlin mlne mthg mord mbor mbsm mans mand manr mali))) ⟨hx, hb, hml, hown, hts⟩ (k_X10_isNumber l dC dI cI cZ cQ b mday mdoo mdA mdB mfar mmar mtel mgai mfal mtop mstr mgho mfai mpto mwal mahd mahf mcho mbes mbyt mtxt mpos_c4 mtka_c5 mtok_c6 mdig_c7 mnum_c8 mfau mrdm mrea_u11 mlin mlne mthg mord mbor mbsm mans mand manr mali _ (at_ + 1) (0 : Int32) (7 : Int32) r_mday r_mdoo r_mdA r_mdB r_mmar r_mgai r_mfal r_mtop r_mstr r_mgho r_mfai r_mahd r_mahf r_mcho r_mbyt h2_1 r_mrdm r_mlin r_mthg r_mord r_mans (by omega) (by omega) (by omega)) (cwV 3 hts gX10_isLine_X10_isNumber rfl rfl rfl (by decide +kernel) ⟨Nat.le_of_ble_eq_true rfl, Nat.le_of_ble_eq_true rfl⟩) hP hD hS hA hK hN [0, 1, 2, 3, 4, 5, 6, 7, 8, 9, 10, 11, 12, 13, 14, 15, 16, 17, 18, 19, 20, 21, 22, 23, 24, 25] [] [0, 1, 2, 3, 4, 5, 6, 7, 8, 9, 10, 11, 12, 13, 14, 15, 16, 17, 18, 19, 20, 21, 22, 23, 24, 25] rfl rfl (by decide) (by decide) (by decide) (fun _ => rfl) (by decide) 0 10 rfl rfl rfl hl.1 rfl (Nat.le_of_ble_eq_true rfl) dX10_isLine_123 ⟨Nat.le_of_ble_eq_true rfl, Nat.le_of_ble_eq_true rfl⟩ (fun r15 u17 H locs h16 hP hD hS => ?_)
      obtain ⟨mpos_c18, empos_c18⟩ : ∃ f : Int32, f = (u17.1 0 0) := ⟨_, rfl⟩
      obtain ⟨mtka_c19, emtka_c19⟩ : ∃ f : Int32, f = (u17.1 1 0) := ⟨_, rfl⟩
      obtain ⟨mtok_c20, emtok_c20⟩ : ∃ f : Int64, f = u17.2.1 := ⟨_, rfl⟩
      obtain ⟨mdig_c21, emdig_c21⟩ : ∃ f : Int32, f = (u17.1 3 0) := ⟨_, rfl⟩
      obtain ⟨mnum_c22, emnum_c22⟩ : ∃ f : Int32, f = (u17.1 4 0) := ⟨_, rfl⟩
      obtain ⟨mfau_c23, emfau_c23⟩ : ∃ f : Int32, f = (u17.1 5 0) := ⟨_, rfl⟩
      obtain ⟨mrea_c24, emrea_c24⟩ : ∃ f : Nat → Int32, f = (u17.1 6) := ⟨_, rfl⟩
      have hP : va_P (dC, dI) vwCl (wMod cI cZ cQ b mday mdoo mdA mdB mfar mmar mtel mgai mfal mtop mstr mgho mfai mpto mwal mahd mahf mcho mbes mbyt mtxt mpos_c18 mtka_c19 mtok_c20 mdig_c21 mnum_c22 mfau_c23 mrdm mrea_c24 mlin mlne mthg mord mbor mbsm mans mand manr mali) H := by rw [empos_c18, emtka_c19, emtok_c20, emdig_c21, emnum_c22, emfau_c23, emrea_c24]; exact hP
      have hD : va_D A (wMod cI cZ cQ b mday mdoo mdA mdB mfar mmar mtel mgai mfal mtop mstr mgho mfai mpto mwal mahd mahf mcho mbes mbyt mtxt mpos_c18 mtka_c19 mtok_c20 mdig_c21 mnum_c22 mfau_c23 mrdm mrea_c24 mlin mlne mthg mord mbor mbsm mans mand manr mali) := by rw [empos_c18, emtka_c19, emtok_c20, emdig_c21, emnum_c22, emfau_c23, emrea_c24]; exact hD
      have h16 : ((((r15 = 1)) ∨ ((r15 = 0)))) ∧ (mpos_c18.toInt ≤ mbyt.toInt) ∧ (0 ≤ mpos_c18.toInt ∧ mpos_c18.toInt ≤ 160) := by (try rw [empos_c18]); (try rw [emtka_c19]); (try rw [emtok_c20]); (try rw [emdig_c21]); (try rw [emnum_c22]); (try rw [emfau_c23]); (try rw [emrea_c24]); exact h16
      rcases h16 with ⟨(rfl | rfl), h16_0, h16_1⟩
      · refine lv_if_eq (tgt := 146) hx hb dX10_isLine_126 (by decide) (fun c9 => absurd c9 (by decide)) (fun _ => ?_)
        refine lv_aload_n hx hb dX10_isLine_129 rfl (lv_at hl 0 rfl) ?_
        refine lv_iload_n hx hb dX10_isLine_130 rfl (lv_at hl 1 rfl) ?_
        refine lv_iconst (v := 2) hx hb dX10_isLine_131 (by decide) ?_
        refine lv_iadd hx hb dX10_isLine_132 ?_
        have f25 : (at_ + 2).toInt = (at_.toInt) + (2) := addC rfl (show (2 : Int32).toInt = 2 from rfl) (by omega) (by omega)
        refine lv_iconst (v := 0) hx hb dX10_isLine_133 (by decide) ?_
        refine lv_bipush (v := 8) hx hb dX10_isLine_134 (by decide) ?_
        refine wrV (As := [.int (at_ + 2), .int 0, .int 8]) (rest := []) (wr := []) (w2 := (fun u : US => (wMod cI cZ cQ b mday mdoo mdA mdB mfar mmar mtel mgai mfal mtop mstr mgho mfai mpto mwal mahd mahf mcho mbes mbyt mtxt (u.1 0 0) (u.1 1 0) u.2.1 (u.1 3 0) (u.1 4 0) (u.1 5 0) mrdm (u.1 6) mlin mlne mthg mord mbor mbsm mans mand manr mali))) ⟨hx, hb, hml, hown, hts⟩ (k_X10_isNumber l dC dI cI cZ cQ b mday mdoo mdA mdB mfar mmar mtel mgai mfal mtop mstr mgho mfai mpto mwal mahd mahf mcho mbes mbyt mtxt mpos_c18 mtka_c19 mtok_c20 mdig_c21 mnum_c22 mfau_c23 mrdm mrea_c24 mlin mlne mthg mord mbor mbsm mans mand manr mali _ (at_ + 2) (0 : Int32) (8 : Int32) r_mday r_mdoo r_mdA r_mdB r_mmar r_mgai r_mfal r_mtop r_mstr r_mgho r_mfai r_mahd r_mahf r_mcho r_mbyt h16_1 r_mrdm r_mlin r_mthg r_mord r_mans (by omega) (by omega) (by omega)) (cwV 3 hts gX10_isLine_X10_isNumber rfl rfl rfl (by decide +kernel) ⟨Nat.le_of_ble_eq_true rfl, Nat.le_of_ble_eq_true rfl⟩) hP hD hS hA hK hN [0, 1, 2, 3, 4, 5, 6, 7, 8, 9, 10, 11, 12, 13, 14, 15, 16, 17, 18, 19, 20, 21, 22, 23, 24, 25] [] [0, 1, 2, 3, 4, 5, 6, 7, 8, 9, 10, 11, 12, 13, 14, 15, 16, 17, 18, 19, 20, 21, 22, 23, 24, 25] rfl rfl (by decide) (by decide) (by decide) (fun _ => rfl) (by decide) 0 10 rfl rfl rfl hl.1 rfl (Nat.le_of_ble_eq_true rfl) dX10_isLine_136 ⟨Nat.le_of_ble_eq_true rfl, Nat.le_of_ble_eq_true rfl⟩ (fun r26 u28 H locs h27 hP hD hS => ?_)
        obtain ⟨mpos_c29, empos_c29⟩ : ∃ f : Int32, f = (u28.1 0 0) := ⟨_, rfl⟩
        obtain ⟨mtka_c30, emtka_c30⟩ : ∃ f : Int32, f = (u28.1 1 0) := ⟨_, rfl⟩
        obtain ⟨mtok_c31, emtok_c31⟩ : ∃ f : Int64, f = u28.2.1 := ⟨_, rfl⟩
        obtain ⟨mdig_c32, emdig_c32⟩ : ∃ f : Int32, f = (u28.1 3 0) := ⟨_, rfl⟩
        obtain ⟨mnum_c33, emnum_c33⟩ : ∃ f : Int32, f = (u28.1 4 0) := ⟨_, rfl⟩
        obtain ⟨mfau_c34, emfau_c34⟩ : ∃ f : Int32, f = (u28.1 5 0) := ⟨_, rfl⟩
        obtain ⟨mrea_c35, emrea_c35⟩ : ∃ f : Nat → Int32, f = (u28.1 6) := ⟨_, rfl⟩
        have hP : va_P (dC, dI) vwCl (wMod cI cZ cQ b mday mdoo mdA mdB mfar mmar mtel mgai mfal mtop mstr mgho mfai mpto mwal mahd mahf mcho mbes mbyt mtxt mpos_c29 mtka_c30 mtok_c31 mdig_c32 mnum_c33 mfau_c34 mrdm mrea_c35 mlin mlne mthg mord mbor mbsm mans mand manr mali) H := by rw [empos_c29, emtka_c30, emtok_c31, emdig_c32, emnum_c33, emfau_c34, emrea_c35]; exact hP
        have hD : va_D A (wMod cI cZ cQ b mday mdoo mdA mdB mfar mmar mtel mgai mfal mtop mstr mgho mfai mpto mwal mahd mahf mcho mbes mbyt mtxt mpos_c29 mtka_c30 mtok_c31 mdig_c32 mnum_c33 mfau_c34 mrdm mrea_c35 mlin mlne mthg mord mbor mbsm mans mand manr mali) := by rw [empos_c29, emtka_c30, emtok_c31, emdig_c32, emnum_c33, emfau_c34, emrea_c35]; exact hD
        have h27 : ((((r26 = 1)) ∨ ((r26 = 0)))) ∧ (mpos_c29.toInt ≤ mbyt.toInt) ∧ (0 ≤ mpos_c29.toInt ∧ mpos_c29.toInt ≤ 160) := by (try rw [empos_c29]); (try rw [emtka_c30]); (try rw [emtok_c31]); (try rw [emdig_c32]); (try rw [emnum_c33]); (try rw [emfau_c34]); (try rw [emrea_c35]); exact h27
        rcases h27 with ⟨(rfl | rfl), h27_0, h27_1⟩
        · refine lv_if_eq (tgt := 146) hx hb dX10_isLine_139 (by decide) (fun c9 => absurd c9 (by decide)) (fun _ => ?_)
          refine lv_iconst (v := 1) hx hb dX10_isLine_142 (by decide) ?_
          refine lv_goto (tgt := 147) hx hb dX10_isLine_143 (by decide) ?_
          exact W.zret (v := 1) hx hb hr (by decide) (fun tq ht hW => ⟨⟨1, (uS [(fun _ => mpos_c29), (fun _ => mtka_c30), (fun _ => 0), (fun _ => mdig_c32), (fun _ => mnum_c33), (fun _ => mfau_c34), mrea_c35] mtok_c31 (fun _ => 0)), rfl, ⟨(Or.inl rfl), (show mpos_c29.toInt ≤ mbyt.toInt from by (try rw [show (1 : Int32).toInt = 1 from (show (1 : Int32).toInt = 1 from rfl)]); omega), h27_1⟩, by rw [ht]; exact hP, hD⟩, hS.F ht⟩) hS.2.2 dX10_isLine_147
        · refine lv_if_eq (tgt := 146) hx hb dX10_isLine_139 (by decide) (fun _ => ?_) (fun c9 => absurd (by decide) c9)
          refine lv_iconst (v := 0) hx hb dX10_isLine_146 (by decide) ?_
          exact W.zret (v := 0) hx hb hr (by decide) (fun tq ht hW => ⟨⟨0, (uS [(fun _ => mpos_c29), (fun _ => mtka_c30), (fun _ => 0), (fun _ => mdig_c32), (fun _ => mnum_c33), (fun _ => mfau_c34), mrea_c35] mtok_c31 (fun _ => 0)), rfl, ⟨(Or.inr rfl), (show mpos_c29.toInt ≤ mbyt.toInt from by (try rw [show (0 : Int32).toInt = 0 from (show (0 : Int32).toInt = 0 from rfl)]); omega), h27_1⟩, by rw [ht]; exact hP, hD⟩, hS.F ht⟩) hS.2.2 dX10_isLine_147
      · refine lv_if_eq (tgt := 146) hx hb dX10_isLine_126 (by decide) (fun _ => ?_) (fun c9 => absurd (by decide) c9)
        refine lv_iconst (v := 0) hx hb dX10_isLine_146 (by decide) ?_
        exact W.zret (v := 0) hx hb hr (by decide) (fun tq ht hW => ⟨⟨0, (uS [(fun _ => mpos_c18), (fun _ => mtka_c19), (fun _ => 0), (fun _ => mdig_c21), (fun _ => mnum_c22), (fun _ => mfau_c23), mrea_c24] mtok_c20 (fun _ => 0)), rfl, ⟨(Or.inr rfl), (show mpos_c18.toInt ≤ mbyt.toInt from by (try rw [show (0 : Int32).toInt = 0 from (show (0 : Int32).toInt = 0 from rfl)]); omega), h16_1⟩, by rw [ht]; exact hP, hD⟩, hS.F ht⟩) hS.2.2 dX10_isLine_147
    by_cases w36 : mrea_u11 at_.toNatClampNeg = 1
    · have dw36 : (mrea_u11 at_.toNatClampNeg).toInt = 1 := eqC rfl rfl w36
      refine lv_tableIn (off := 62) (tgt := 148) hx hb dX10_isLine_86 (by rw [w36]; decide) (by rw [w36]; decide) (by rw [w36]; decide) (by decide) ?_
      refine lv_aload_n hx hb dX10_isLine_148 rfl (lv_at hl 0 rfl) ?_
      refine lv_iload_n hx hb dX10_isLine_149 rfl (lv_at hl 1 rfl) ?_
      refine lv_iconst (v := 2) hx hb dX10_isLine_150 (by decide) ?_
      refine lv_iadd hx hb dX10_isLine_151 ?_
      have f37 : (at_ + 2).toInt = (at_.toInt) + (2) := addC rfl (show (2 : Int32).toInt = 2 from rfl) (by omega) (by omega)
      refine lv_iconst (v := 1) hx hb dX10_isLine_152 (by decide) ?_
      refine lv_bipush (v := 99) hx hb dX10_isLine_153 (by decide) ?_
      refine wrV (As := [.int (at_ + 2), .int 1, .int 99]) (rest := []) (wr := []) (w2 := (fun u : US => (wMod cI cZ cQ b mday mdoo mdA mdB mfar mmar mtel mgai mfal mtop mstr mgho mfai mpto mwal mahd mahf mcho mbes mbyt mtxt (u.1 0 0) (u.1 1 0) u.2.1 (u.1 3 0) (u.1 4 0) (u.1 5 0) mrdm (u.1 6) mlin mlne mthg mord mbor mbsm mans mand manr mali))) ⟨hx, hb, hml, hown, hts⟩ (k_X10_isNumber l dC dI cI cZ cQ b mday mdoo mdA mdB mfar mmar mtel mgai mfal mtop mstr mgho mfai mpto mwal mahd mahf mcho mbes mbyt mtxt mpos_c4 mtka_c5 mtok_c6 mdig_c7 mnum_c8 mfau mrdm mrea_u11 mlin mlne mthg mord mbor mbsm mans mand manr mali _ (at_ + 2) (1 : Int32) (99 : Int32) r_mday r_mdoo r_mdA r_mdB r_mmar r_mgai r_mfal r_mtop r_mstr r_mgho r_mfai r_mahd r_mahf r_mcho r_mbyt h2_1 r_mrdm r_mlin r_mthg r_mord r_mans (by omega) (by omega) (by omega)) (cwV 3 hts gX10_isLine_X10_isNumber rfl rfl rfl (by decide +kernel) ⟨Nat.le_of_ble_eq_true rfl, Nat.le_of_ble_eq_true rfl⟩) hP hD hS hA hK hN [0, 1, 2, 3, 4, 5, 6, 7, 8, 9, 10, 11, 12, 13, 14, 15, 16, 17, 18, 19, 20, 21, 22, 23, 24, 25] [] [0, 1, 2, 3, 4, 5, 6, 7, 8, 9, 10, 11, 12, 13, 14, 15, 16, 17, 18, 19, 20, 21, 22, 23, 24, 25] rfl rfl (by decide) (by decide) (by decide) (fun _ => rfl) (by decide) 0 10 rfl rfl rfl hl.1 rfl (Nat.le_of_ble_eq_true rfl) dX10_isLine_155 ⟨Nat.le_of_ble_eq_true rfl, Nat.le_of_ble_eq_true rfl⟩ (fun r38 u40 H locs h39 hP hD hS => ?_)
      obtain ⟨mpos_c41, empos_c41⟩ : ∃ f : Int32, f = (u40.1 0 0) := ⟨_, rfl⟩
      obtain ⟨mtka_c42, emtka_c42⟩ : ∃ f : Int32, f = (u40.1 1 0) := ⟨_, rfl⟩
      obtain ⟨mtok_c43, emtok_c43⟩ : ∃ f : Int64, f = u40.2.1 := ⟨_, rfl⟩
      obtain ⟨mdig_c44, emdig_c44⟩ : ∃ f : Int32, f = (u40.1 3 0) := ⟨_, rfl⟩
      obtain ⟨mnum_c45, emnum_c45⟩ : ∃ f : Int32, f = (u40.1 4 0) := ⟨_, rfl⟩
      obtain ⟨mfau_c46, emfau_c46⟩ : ∃ f : Int32, f = (u40.1 5 0) := ⟨_, rfl⟩
      obtain ⟨mrea_c47, emrea_c47⟩ : ∃ f : Nat → Int32, f = (u40.1 6) := ⟨_, rfl⟩
      have hP : va_P (dC, dI) vwCl (wMod cI cZ cQ b mday mdoo mdA mdB mfar mmar mtel mgai mfal mtop mstr mgho mfai mpto mwal mahd mahf mcho mbes mbyt mtxt mpos_c41 mtka_c42 mtok_c43 mdig_c44 mnum_c45 mfau_c46 mrdm mrea_c47 mlin mlne mthg mord mbor mbsm mans mand manr mali) H := by rw [empos_c41, emtka_c42, emtok_c43, emdig_c44, emnum_c45, emfau_c46, emrea_c47]; exact hP
      have hD : va_D A (wMod cI cZ cQ b mday mdoo mdA mdB mfar mmar mtel mgai mfal mtop mstr mgho mfai mpto mwal mahd mahf mcho mbes mbyt mtxt mpos_c41 mtka_c42 mtok_c43 mdig_c44 mnum_c45 mfau_c46 mrdm mrea_c47 mlin mlne mthg mord mbor mbsm mans mand manr mali) := by rw [empos_c41, emtka_c42, emtok_c43, emdig_c44, emnum_c45, emfau_c46, emrea_c47]; exact hD
      have h39 : ((((r38 = 1)) ∨ ((r38 = 0)))) ∧ (mpos_c41.toInt ≤ mbyt.toInt) ∧ (0 ≤ mpos_c41.toInt ∧ mpos_c41.toInt ≤ 160) := by (try rw [empos_c41]); (try rw [emtka_c42]); (try rw [emtok_c43]); (try rw [emdig_c44]); (try rw [emnum_c45]); (try rw [emfau_c46]); (try rw [emrea_c47]); exact h39
      rcases h39 with ⟨(rfl | rfl), h39_0, h39_1⟩
      · exact W.zret (v := 1) hx hb hr (by decide) (fun tq ht hW => ⟨⟨1, (uS [(fun _ => mpos_c41), (fun _ => mtka_c42), (fun _ => 0), (fun _ => mdig_c44), (fun _ => mnum_c45), (fun _ => mfau_c46), mrea_c47] mtok_c43 (fun _ => 0)), rfl, ⟨(Or.inl rfl), (show mpos_c41.toInt ≤ mbyt.toInt from by (try rw [show (1 : Int32).toInt = 1 from (show (1 : Int32).toInt = 1 from rfl)]); omega), h39_1⟩, by rw [ht]; exact hP, hD⟩, hS.F ht⟩) hS.2.2 dX10_isLine_158
      · exact W.zret (v := 0) hx hb hr (by decide) (fun tq ht hW => ⟨⟨0, (uS [(fun _ => mpos_c41), (fun _ => mtka_c42), (fun _ => 0), (fun _ => mdig_c44), (fun _ => mnum_c45), (fun _ => mfau_c46), mrea_c47] mtok_c43 (fun _ => 0)), rfl, ⟨(Or.inr rfl), (show mpos_c41.toInt ≤ mbyt.toInt from by (try rw [show (0 : Int32).toInt = 0 from (show (0 : Int32).toInt = 0 from rfl)]); omega), h39_1⟩, by rw [ht]; exact hP, hD⟩, hS.F ht⟩) hS.2.2 dX10_isLine_158
    by_cases w48 : mrea_u11 at_.toNatClampNeg = 2
    · have dw48 : (mrea_u11 at_.toNatClampNeg).toInt = 2 := eqC rfl rfl w48
      refine lv_tableIn (off := 73) (tgt := 159) hx hb dX10_isLine_86 (by rw [w48]; decide) (by rw [w48]; decide) (by rw [w48]; decide) (by decide) ?_
      refine lv_aload_n hx hb dX10_isLine_159 rfl (lv_at hl 0 rfl) ?_
      refine lv_iload_n hx hb dX10_isLine_160 rfl (lv_at hl 1 rfl) ?_
      refine lv_iconst (v := 2) hx hb dX10_isLine_161 (by decide) ?_
      refine lv_iadd hx hb dX10_isLine_162 ?_
      have f49 : (at_ + 2).toInt = (at_.toInt) + (2) := addC rfl (show (2 : Int32).toInt = 2 from rfl) (by omega) (by omega)
      refine lv_iconst (v := 0) hx hb dX10_isLine_163 (by decide) ?_
      refine lv_bipush (v := 8) hx hb dX10_isLine_164 (by decide) ?_
      refine wrV (As := [.int (at_ + 2), .int 0, .int 8]) (rest := []) (wr := []) (w2 := (fun u : US => (wMod cI cZ cQ b mday mdoo mdA mdB mfar mmar mtel mgai mfal mtop mstr mgho mfai mpto mwal mahd mahf mcho mbes mbyt mtxt (u.1 0 0) (u.1 1 0) u.2.1 (u.1 3 0) (u.1 4 0) (u.1 5 0) mrdm (u.1 6) mlin mlne mthg mord mbor mbsm mans mand manr mali))) ⟨hx, hb, hml, hown, hts⟩ (k_X10_isNumber l dC dI cI cZ cQ b mday mdoo mdA mdB mfar mmar mtel mgai mfal mtop mstr mgho mfai mpto mwal mahd mahf mcho mbes mbyt mtxt mpos_c4 mtka_c5 mtok_c6 mdig_c7 mnum_c8 mfau mrdm mrea_u11 mlin mlne mthg mord mbor mbsm mans mand manr mali _ (at_ + 2) (0 : Int32) (8 : Int32) r_mday r_mdoo r_mdA r_mdB r_mmar r_mgai r_mfal r_mtop r_mstr r_mgho r_mfai r_mahd r_mahf r_mcho r_mbyt h2_1 r_mrdm r_mlin r_mthg r_mord r_mans (by omega) (by omega) (by omega)) (cwV 3 hts gX10_isLine_X10_isNumber rfl rfl rfl (by decide +kernel) ⟨Nat.le_of_ble_eq_true rfl, Nat.le_of_ble_eq_true rfl⟩) hP hD hS hA hK hN [0, 1, 2, 3, 4, 5, 6, 7, 8, 9, 10, 11, 12, 13, 14, 15, 16, 17, 18, 19, 20, 21, 22, 23, 24, 25] [] [0, 1, 2, 3, 4, 5, 6, 7, 8, 9, 10, 11, 12, 13, 14, 15, 16, 17, 18, 19, 20, 21, 22, 23, 24, 25] rfl rfl (by decide) (by decide) (by decide) (fun _ => rfl) (by decide) 0 10 rfl rfl rfl hl.1 rfl (Nat.le_of_ble_eq_true rfl) dX10_isLine_166 ⟨Nat.le_of_ble_eq_true rfl, Nat.le_of_ble_eq_true rfl⟩ (fun r50 u52 H locs h51 hP hD hS => ?_)
      obtain ⟨mpos_c53, empos_c53⟩ : ∃ f : Int32, f = (u52.1 0 0) := ⟨_, rfl⟩
      obtain ⟨mtka_c54, emtka_c54⟩ : ∃ f : Int32, f = (u52.1 1 0) := ⟨_, rfl⟩
      obtain ⟨mtok_c55, emtok_c55⟩ : ∃ f : Int64, f = u52.2.1 := ⟨_, rfl⟩
      obtain ⟨mdig_c56, emdig_c56⟩ : ∃ f : Int32, f = (u52.1 3 0) := ⟨_, rfl⟩
      obtain ⟨mnum_c57, emnum_c57⟩ : ∃ f : Int32, f = (u52.1 4 0) := ⟨_, rfl⟩
      obtain ⟨mfau_c58, emfau_c58⟩ : ∃ f : Int32, f = (u52.1 5 0) := ⟨_, rfl⟩
      obtain ⟨mrea_c59, emrea_c59⟩ : ∃ f : Nat → Int32, f = (u52.1 6) := ⟨_, rfl⟩
      have hP : va_P (dC, dI) vwCl (wMod cI cZ cQ b mday mdoo mdA mdB mfar mmar mtel mgai mfal mtop mstr mgho mfai mpto mwal mahd mahf mcho mbes mbyt mtxt mpos_c53 mtka_c54 mtok_c55 mdig_c56 mnum_c57 mfau_c58 mrdm mrea_c59 mlin mlne mthg mord mbor mbsm mans mand manr mali) H := by rw [empos_c53, emtka_c54, emtok_c55, emdig_c56, emnum_c57, emfau_c58, emrea_c59]; exact hP
      have hD : va_D A (wMod cI cZ cQ b mday mdoo mdA mdB mfar mmar mtel mgai mfal mtop mstr mgho mfai mpto mwal mahd mahf mcho mbes mbyt mtxt mpos_c53 mtka_c54 mtok_c55 mdig_c56 mnum_c57 mfau_c58 mrdm mrea_c59 mlin mlne mthg mord mbor mbsm mans mand manr mali) := by rw [empos_c53, emtka_c54, emtok_c55, emdig_c56, emnum_c57, emfau_c58, emrea_c59]; exact hD
      have h51 : ((((r50 = 1)) ∨ ((r50 = 0)))) ∧ (mpos_c53.toInt ≤ mbyt.toInt) ∧ (0 ≤ mpos_c53.toInt ∧ mpos_c53.toInt ≤ 160) := by (try rw [empos_c53]); (try rw [emtka_c54]); (try rw [emtok_c55]); (try rw [emdig_c56]); (try rw [emnum_c57]); (try rw [emfau_c58]); (try rw [emrea_c59]); exact h51
      rcases h51 with ⟨(rfl | rfl), h51_0, h51_1⟩
      · exact W.zret (v := 1) hx hb hr (by decide) (fun tq ht hW => ⟨⟨1, (uS [(fun _ => mpos_c53), (fun _ => mtka_c54), (fun _ => 0), (fun _ => mdig_c56), (fun _ => mnum_c57), (fun _ => mfau_c58), mrea_c59] mtok_c55 (fun _ => 0)), rfl, ⟨(Or.inl rfl), (show mpos_c53.toInt ≤ mbyt.toInt from by (try rw [show (1 : Int32).toInt = 1 from (show (1 : Int32).toInt = 1 from rfl)]); omega), h51_1⟩, by rw [ht]; exact hP, hD⟩, hS.F ht⟩) hS.2.2 dX10_isLine_169
      · exact W.zret (v := 0) hx hb hr (by decide) (fun tq ht hW => ⟨⟨0, (uS [(fun _ => mpos_c53), (fun _ => mtka_c54), (fun _ => 0), (fun _ => mdig_c56), (fun _ => mnum_c57), (fun _ => mfau_c58), mrea_c59] mtok_c55 (fun _ => 0)), rfl, ⟨(Or.inr rfl), (show mpos_c53.toInt ≤ mbyt.toInt from by (try rw [show (0 : Int32).toInt = 0 from (show (0 : Int32).toInt = 0 from rfl)]); omega), h51_1⟩, by rw [ht]; exact hP, hD⟩, hS.F ht⟩) hS.2.2 dX10_isLine_169
    by_cases w60 : mrea_u11 at_.toNatClampNeg = 3
    · have dw60 : (mrea_u11 at_.toNatClampNeg).toInt = 3 := eqC rfl rfl w60
      refine lv_tableIn (off := 84) (tgt := 170) hx hb dX10_isLine_86 (by rw [w60]; decide) (by rw [w60]; decide) (by rw [w60]; decide) (by decide) ?_
      refine lv_aload_n hx hb dX10_isLine_170 rfl (lv_at hl 0 rfl) ?_
      refine lv_iload_n hx hb dX10_isLine_171 rfl (lv_at hl 1 rfl) ?_
      refine lv_iconst (v := 1) hx hb dX10_isLine_172 (by decide) ?_
      refine lv_iadd hx hb dX10_isLine_173 ?_
      have f61 : (at_ + 1).toInt = (at_.toInt) + (1) := addC rfl (show (1 : Int32).toInt = 1 from rfl) (by omega) (by omega)
      refine lv_iconst (v := 0) hx hb dX10_isLine_174 (by decide) ?_
      refine lv_bipush (v := 7) hx hb dX10_isLine_175 (by decide) ?_
      refine wrV (As := [.int (at_ + 1), .int 0, .int 7]) (rest := []) (wr := []) (w2 := (fun u : US => (wMod cI cZ cQ b mday mdoo mdA mdB mfar mmar mtel mgai mfal mtop mstr mgho mfai mpto mwal mahd mahf mcho mbes mbyt mtxt (u.1 0 0) (u.1 1 0) u.2.1 (u.1 3 0) (u.1 4 0) (u.1 5 0) mrdm (u.1 6) mlin mlne mthg mord mbor mbsm mans mand manr mali))) ⟨hx, hb, hml, hown, hts⟩ (k_X10_isNumber l dC dI cI cZ cQ b mday mdoo mdA mdB mfar mmar mtel mgai mfal mtop mstr mgho mfai mpto mwal mahd mahf mcho mbes mbyt mtxt mpos_c4 mtka_c5 mtok_c6 mdig_c7 mnum_c8 mfau mrdm mrea_u11 mlin mlne mthg mord mbor mbsm mans mand manr mali _ (at_ + 1) (0 : Int32) (7 : Int32) r_mday r_mdoo r_mdA r_mdB r_mmar r_mgai r_mfal r_mtop r_mstr r_mgho r_mfai r_mahd r_mahf r_mcho r_mbyt h2_1 r_mrdm r_mlin r_mthg r_mord r_mans (by omega) (by omega) (by omega)) (cwV 3 hts gX10_isLine_X10_isNumber rfl rfl rfl (by decide +kernel) ⟨Nat.le_of_ble_eq_true rfl, Nat.le_of_ble_eq_true rfl⟩) hP hD hS hA hK hN [0, 1, 2, 3, 4, 5, 6, 7, 8, 9, 10, 11, 12, 13, 14, 15, 16, 17, 18, 19, 20, 21, 22, 23, 24, 25] [] [0, 1, 2, 3, 4, 5, 6, 7, 8, 9, 10, 11, 12, 13, 14, 15, 16, 17, 18, 19, 20, 21, 22, 23, 24, 25] rfl rfl (by decide) (by decide) (by decide) (fun _ => rfl) (by decide) 0 10 rfl rfl rfl hl.1 rfl (Nat.le_of_ble_eq_true rfl) dX10_isLine_177 ⟨Nat.le_of_ble_eq_true rfl, Nat.le_of_ble_eq_true rfl⟩ (fun r62 u64 H locs h63 hP hD hS => ?_)
      obtain ⟨mpos_c65, empos_c65⟩ : ∃ f : Int32, f = (u64.1 0 0) := ⟨_, rfl⟩
      obtain ⟨mtka_c66, emtka_c66⟩ : ∃ f : Int32, f = (u64.1 1 0) := ⟨_, rfl⟩
      obtain ⟨mtok_c67, emtok_c67⟩ : ∃ f : Int64, f = u64.2.1 := ⟨_, rfl⟩
      obtain ⟨mdig_c68, emdig_c68⟩ : ∃ f : Int32, f = (u64.1 3 0) := ⟨_, rfl⟩
      obtain ⟨mnum_c69, emnum_c69⟩ : ∃ f : Int32, f = (u64.1 4 0) := ⟨_, rfl⟩
      obtain ⟨mfau_c70, emfau_c70⟩ : ∃ f : Int32, f = (u64.1 5 0) := ⟨_, rfl⟩
      obtain ⟨mrea_c71, emrea_c71⟩ : ∃ f : Nat → Int32, f = (u64.1 6) := ⟨_, rfl⟩
      have hP : va_P (dC, dI) vwCl (wMod cI cZ cQ b mday mdoo mdA mdB mfar mmar mtel mgai mfal mtop mstr mgho mfai mpto mwal mahd mahf mcho mbes mbyt mtxt mpos_c65 mtka_c66 mtok_c67 mdig_c68 mnum_c69 mfau_c70 mrdm mrea_c71 mlin mlne mthg mord mbor mbsm mans mand manr mali) H := by rw [empos_c65, emtka_c66, emtok_c67, emdig_c68, emnum_c69, emfau_c70, emrea_c71]; exact hP
      have hD : va_D A (wMod cI cZ cQ b mday mdoo mdA mdB mfar mmar mtel mgai mfal mtop mstr mgho mfai mpto mwal mahd mahf mcho mbes mbyt mtxt mpos_c65 mtka_c66 mtok_c67 mdig_c68 mnum_c69 mfau_c70 mrdm mrea_c71 mlin mlne mthg mord mbor mbsm mans mand manr mali) := by rw [empos_c65, emtka_c66, emtok_c67, emdig_c68, emnum_c69, emfau_c70, emrea_c71]; exact hD
      have h63 : ((((r62 = 1)) ∨ ((r62 = 0)))) ∧ (mpos_c65.toInt ≤ mbyt.toInt) ∧ (0 ≤ mpos_c65.toInt ∧ mpos_c65.toInt ≤ 160) := by (try rw [empos_c65]); (try rw [emtka_c66]); (try rw [emtok_c67]); (try rw [emdig_c68]); (try rw [emnum_c69]); (try rw [emfau_c70]); (try rw [emrea_c71]); exact h63
      rcases h63 with ⟨(rfl | rfl), h63_0, h63_1⟩
      · refine lv_if_eq (tgt := 210) hx hb dX10_isLine_180 (by decide) (fun c9 => absurd c9 (by decide)) (fun _ => ?_)
        refine lv_aload_n hx hb dX10_isLine_183 rfl (lv_at hl 0 rfl) ?_
        refine lv_ldc2 (v := 3094387) hx hb hown (hts (.constantLong RX10 195 (3094387)) (by decide +kernel)) dX10_isLine_184 ?_
        refine wrV (As := [.long 3094387]) (rest := []) (wr := []) (w2 := (fun u : US => (wMod cI cZ cQ b mday mdoo mdA mdB mfar mmar mtel mgai mfal mtop mstr mgho mfai mpto mwal mahd mahf mcho mbes mbyt mtxt (u.1 0 0) (u.1 1 0) u.2.1 (u.1 3 0) (u.1 4 0) (u.1 5 0) mrdm mrea_c71 mlin mlne mthg mord mbor mbsm mans mand manr mali))) ⟨hx, hb, hml, hown, hts⟩ (k_X10_isWord l dC dI cI cZ cQ b mday mdoo mdA mdB mfar mmar mtel mgai mfal mtop mstr mgho mfai mpto mwal mahd mahf mcho mbes mbyt mtxt mpos_c65 mtka_c66 mtok_c67 mdig_c68 mnum_c69 mfau_c70 mrdm mrea_c71 mlin mlne mthg mord mbor mbsm mans mand manr mali _ 3094387 r_mday r_mdoo r_mdA r_mdB r_mmar r_mgai r_mfal r_mtop r_mstr r_mgho r_mfai r_mahd r_mahf r_mcho r_mbyt h63_1 r_mrdm r_mlin r_mthg r_mord r_mans (by omega)) (cwV 1 hts gX10_isLine_X10_isWord rfl rfl rfl (by decide +kernel) ⟨Nat.le_of_ble_eq_true rfl, Nat.le_of_ble_eq_true rfl⟩) hP hD hS hA hK hN [0, 1, 2, 3, 4, 5, 6, 7, 8, 9, 10, 11, 12, 13, 14, 15, 16, 17, 18, 19, 20, 21, 22, 23, 24, 25] [] [0, 1, 2, 3, 4, 5, 6, 7, 8, 9, 10, 11, 12, 13, 14, 15, 16, 17, 18, 19, 20, 21, 22, 23, 24, 25] rfl rfl (by decide) (by decide) (by decide) (fun _ => rfl) (by decide) 0 10 rfl rfl rfl hl.1 rfl (Nat.le_of_ble_eq_true rfl) dX10_isLine_187 ⟨Nat.le_of_ble_eq_true rfl, Nat.le_of_ble_eq_true rfl⟩ (fun r72 u74 H locs h73 hP hD hS => ?_)
        obtain ⟨mpos_c75, empos_c75⟩ : ∃ f : Int32, f = (u74.1 0 0) := ⟨_, rfl⟩
        obtain ⟨mtka_c76, emtka_c76⟩ : ∃ f : Int32, f = (u74.1 1 0) := ⟨_, rfl⟩
        obtain ⟨mtok_c77, emtok_c77⟩ : ∃ f : Int64, f = u74.2.1 := ⟨_, rfl⟩
        obtain ⟨mdig_c78, emdig_c78⟩ : ∃ f : Int32, f = (u74.1 3 0) := ⟨_, rfl⟩
        obtain ⟨mnum_c79, emnum_c79⟩ : ∃ f : Int32, f = (u74.1 4 0) := ⟨_, rfl⟩
        obtain ⟨mfau_c80, emfau_c80⟩ : ∃ f : Int32, f = (u74.1 5 0) := ⟨_, rfl⟩
        have hP : va_P (dC, dI) vwCl (wMod cI cZ cQ b mday mdoo mdA mdB mfar mmar mtel mgai mfal mtop mstr mgho mfai mpto mwal mahd mahf mcho mbes mbyt mtxt mpos_c75 mtka_c76 mtok_c77 mdig_c78 mnum_c79 mfau_c80 mrdm mrea_c71 mlin mlne mthg mord mbor mbsm mans mand manr mali) H := by rw [empos_c75, emtka_c76, emtok_c77, emdig_c78, emnum_c79, emfau_c80]; exact hP
        have hD : va_D A (wMod cI cZ cQ b mday mdoo mdA mdB mfar mmar mtel mgai mfal mtop mstr mgho mfai mpto mwal mahd mahf mcho mbes mbyt mtxt mpos_c75 mtka_c76 mtok_c77 mdig_c78 mnum_c79 mfau_c80 mrdm mrea_c71 mlin mlne mthg mord mbor mbsm mans mand manr mali) := by rw [empos_c75, emtka_c76, emtok_c77, emdig_c78, emnum_c79, emfau_c80]; exact hD
        have h73 : ((((r72 = 1)) ∨ ((r72 = 0)))) ∧ (mpos_c75.toInt ≤ mbyt.toInt) ∧ (0 ≤ mpos_c75.toInt ∧ mpos_c75.toInt ≤ 160) := by (try rw [empos_c75]); (try rw [emtka_c76]); (try rw [emtok_c77]); (try rw [emdig_c78]); (try rw [emnum_c79]); (try rw [emfau_c80]); exact h73
        rcases h73 with ⟨(rfl | rfl), h73_0, h73_1⟩
        · refine lv_if_eq (tgt := 210) hx hb dX10_isLine_190 (by decide) (fun c9 => absurd c9 (by decide)) (fun _ => ?_)
          refine lv_aload_n hx hb dX10_isLine_193 rfl (lv_at hl 0 rfl) ?_
          refine lv_iload_n hx hb dX10_isLine_194 rfl (lv_at hl 1 rfl) ?_
          refine lv_iconst (v := 2) hx hb dX10_isLine_195 (by decide) ?_
          refine lv_iadd hx hb dX10_isLine_196 ?_
          have f81 : (at_ + 2).toInt = (at_.toInt) + (2) := addC rfl (show (2 : Int32).toInt = 2 from rfl) (by omega) (by omega)
          refine lv_iconst (v := 1) hx hb dX10_isLine_197 (by decide) ?_
          refine lv_bipush (v := 99) hx hb dX10_isLine_198 (by decide) ?_
          refine wrV (As := [.int (at_ + 2), .int 1, .int 99]) (rest := []) (wr := []) (w2 := (fun u : US => (wMod cI cZ cQ b mday mdoo mdA mdB mfar mmar mtel mgai mfal mtop mstr mgho mfai mpto mwal mahd mahf mcho mbes mbyt mtxt (u.1 0 0) (u.1 1 0) u.2.1 (u.1 3 0) (u.1 4 0) (u.1 5 0) mrdm (u.1 6) mlin mlne mthg mord mbor mbsm mans mand manr mali))) ⟨hx, hb, hml, hown, hts⟩ (k_X10_isNumber l dC dI cI cZ cQ b mday mdoo mdA mdB mfar mmar mtel mgai mfal mtop mstr mgho mfai mpto mwal mahd mahf mcho mbes mbyt mtxt mpos_c75 mtka_c76 mtok_c77 mdig_c78 mnum_c79 mfau_c80 mrdm mrea_c71 mlin mlne mthg mord mbor mbsm mans mand manr mali _ (at_ + 2) (1 : Int32) (99 : Int32) r_mday r_mdoo r_mdA r_mdB r_mmar r_mgai r_mfal r_mtop r_mstr r_mgho r_mfai r_mahd r_mahf r_mcho r_mbyt h73_1 r_mrdm r_mlin r_mthg r_mord r_mans (by omega) (by omega) (by omega)) (cwV 3 hts gX10_isLine_X10_isNumber rfl rfl rfl (by decide +kernel) ⟨Nat.le_of_ble_eq_true rfl, Nat.le_of_ble_eq_true rfl⟩) hP hD hS hA hK hN [0, 1, 2, 3, 4, 5, 6, 7, 8, 9, 10, 11, 12, 13, 14, 15, 16, 17, 18, 19, 20, 21, 22, 23, 24, 25] [] [0, 1, 2, 3, 4, 5, 6, 7, 8, 9, 10, 11, 12, 13, 14, 15, 16, 17, 18, 19, 20, 21, 22, 23, 24, 25] rfl rfl (by decide) (by decide) (by decide) (fun _ => rfl) (by decide) 0 10 rfl rfl rfl hl.1 rfl (Nat.le_of_ble_eq_true rfl) dX10_isLine_200 ⟨Nat.le_of_ble_eq_true rfl, Nat.le_of_ble_eq_true rfl⟩ (fun r82 u84 H locs h83 hP hD hS => ?_)
          obtain ⟨mpos_c85, empos_c85⟩ : ∃ f : Int32, f = (u84.1 0 0) := ⟨_, rfl⟩
          obtain ⟨mtka_c86, emtka_c86⟩ : ∃ f : Int32, f = (u84.1 1 0) := ⟨_, rfl⟩
          obtain ⟨mtok_c87, emtok_c87⟩ : ∃ f : Int64, f = u84.2.1 := ⟨_, rfl⟩
          obtain ⟨mdig_c88, emdig_c88⟩ : ∃ f : Int32, f = (u84.1 3 0) := ⟨_, rfl⟩
          obtain ⟨mnum_c89, emnum_c89⟩ : ∃ f : Int32, f = (u84.1 4 0) := ⟨_, rfl⟩
          obtain ⟨mfau_c90, emfau_c90⟩ : ∃ f : Int32, f = (u84.1 5 0) := ⟨_, rfl⟩
          obtain ⟨mrea_c91, emrea_c91⟩ : ∃ f : Nat → Int32, f = (u84.1 6) := ⟨_, rfl⟩
          have hP : va_P (dC, dI) vwCl (wMod cI cZ cQ b mday mdoo mdA mdB mfar mmar mtel mgai mfal mtop mstr mgho mfai mpto mwal mahd mahf mcho mbes mbyt mtxt mpos_c85 mtka_c86 mtok_c87 mdig_c88 mnum_c89 mfau_c90 mrdm mrea_c91 mlin mlne mthg mord mbor mbsm mans mand manr mali) H := by rw [empos_c85, emtka_c86, emtok_c87, emdig_c88, emnum_c89, emfau_c90, emrea_c91]; exact hP
          have hD : va_D A (wMod cI cZ cQ b mday mdoo mdA mdB mfar mmar mtel mgai mfal mtop mstr mgho mfai mpto mwal mahd mahf mcho mbes mbyt mtxt mpos_c85 mtka_c86 mtok_c87 mdig_c88 mnum_c89 mfau_c90 mrdm mrea_c91 mlin mlne mthg mord mbor mbsm mans mand manr mali) := by rw [empos_c85, emtka_c86, emtok_c87, emdig_c88, emnum_c89, emfau_c90, emrea_c91]; exact hD
          have h83 : ((((r82 = 1)) ∨ ((r82 = 0)))) ∧ (mpos_c85.toInt ≤ mbyt.toInt) ∧ (0 ≤ mpos_c85.toInt ∧ mpos_c85.toInt ≤ 160) := by (try rw [empos_c85]); (try rw [emtka_c86]); (try rw [emtok_c87]); (try rw [emdig_c88]); (try rw [emnum_c89]); (try rw [emfau_c90]); (try rw [emrea_c91]); exact h83
          rcases h83 with ⟨(rfl | rfl), h83_0, h83_1⟩
          · refine lv_if_eq (tgt := 210) hx hb dX10_isLine_203 (by decide) (fun c9 => absurd c9 (by decide)) (fun _ => ?_)
            refine lv_iconst (v := 1) hx hb dX10_isLine_206 (by decide) ?_
            refine lv_goto (tgt := 211) hx hb dX10_isLine_207 (by decide) ?_
            exact W.zret (v := 1) hx hb hr (by decide) (fun tq ht hW => ⟨⟨1, (uS [(fun _ => mpos_c85), (fun _ => mtka_c86), (fun _ => 0), (fun _ => mdig_c88), (fun _ => mnum_c89), (fun _ => mfau_c90), mrea_c91] mtok_c87 (fun _ => 0)), rfl, ⟨(Or.inl rfl), (show mpos_c85.toInt ≤ mbyt.toInt from by (try rw [show (1 : Int32).toInt = 1 from (show (1 : Int32).toInt = 1 from rfl)]); omega), h83_1⟩, by rw [ht]; exact hP, hD⟩, hS.F ht⟩) hS.2.2 dX10_isLine_211
          · refine lv_if_eq (tgt := 210) hx hb dX10_isLine_203 (by decide) (fun _ => ?_) (fun c9 => absurd (by decide) c9)
            refine lv_iconst (v := 0) hx hb dX10_isLine_210 (by decide) ?_
            exact W.zret (v := 0) hx hb hr (by decide) (fun tq ht hW => ⟨⟨0, (uS [(fun _ => mpos_c85), (fun _ => mtka_c86), (fun _ => 0), (fun _ => mdig_c88), (fun _ => mnum_c89), (fun _ => mfau_c90), mrea_c91] mtok_c87 (fun _ => 0)), rfl, ⟨(Or.inr rfl), (show mpos_c85.toInt ≤ mbyt.toInt from by (try rw [show (0 : Int32).toInt = 0 from (show (0 : Int32).toInt = 0 from rfl)]); omega), h83_1⟩, by rw [ht]; exact hP, hD⟩, hS.F ht⟩) hS.2.2 dX10_isLine_211
        · refine lv_if_eq (tgt := 210) hx hb dX10_isLine_190 (by decide) (fun _ => ?_) (fun c9 => absurd (by decide) c9)
          refine lv_iconst (v := 0) hx hb dX10_isLine_210 (by decide) ?_
          exact W.zret (v := 0) hx hb hr (by decide) (fun tq ht hW => ⟨⟨0, (uS [(fun _ => mpos_c75), (fun _ => mtka_c76), (fun _ => 0), (fun _ => mdig_c78), (fun _ => mnum_c79), (fun _ => mfau_c80), mrea_c71] mtok_c77 (fun _ => 0)), rfl, ⟨(Or.inr rfl), (show mpos_c75.toInt ≤ mbyt.toInt from by (try rw [show (0 : Int32).toInt = 0 from (show (0 : Int32).toInt = 0 from rfl)]); omega), h73_1⟩, by rw [ht]; exact hP, hD⟩, hS.F ht⟩) hS.2.2 dX10_isLine_211
      · refine lv_if_eq (tgt := 210) hx hb dX10_isLine_180 (by decide) (fun _ => ?_) (fun c9 => absurd (by decide) c9)
        refine lv_iconst (v := 0) hx hb dX10_isLine_210 (by decide) ?_
        exact W.zret (v := 0) hx hb hr (by decide) (fun tq ht hW => ⟨⟨0, (uS [(fun _ => mpos_c65), (fun _ => mtka_c66), (fun _ => 0), (fun _ => mdig_c68), (fun _ => mnum_c69), (fun _ => mfau_c70), mrea_c71] mtok_c67 (fun _ => 0)), rfl, ⟨(Or.inr rfl), (show mpos_c65.toInt ≤ mbyt.toInt from by (try rw [show (0 : Int32).toInt = 0 from (show (0 : Int32).toInt = 0 from rfl)]); omega), h63_1⟩, by rw [ht]; exact hP, hD⟩, hS.F ht⟩) hS.2.2 dX10_isLine_211
    have nw13 : (mrea_u11 at_.toNatClampNeg).toInt ≠ 0 := neC rfl rfl w13
    have nw36 : (mrea_u11 at_.toNatClampNeg).toInt ≠ 1 := neC rfl rfl w36
    have nw48 : (mrea_u11 at_.toNatClampNeg).toInt ≠ 2 := neC rfl rfl w48
    have nw60 : (mrea_u11 at_.toNatClampNeg).toInt ≠ 3 := neC rfl rfl w60
    have o86 : (mrea_u11 at_.toNatClampNeg).toInt < 0 ∨ 3 < (mrea_u11 at_.toNatClampNeg).toInt := by rw [show (mrea_u11 at_.toNatClampNeg).toInt = (mrea_u11 at_.toNatClampNeg).toInt from rfl]; omega
    refine lv_tableOut (tgt := 212) hx hb dX10_isLine_86 o86 (by decide) ?_
    refine lv_aload_n hx hb dX10_isLine_212 rfl (lv_at hl 0 rfl) ?_
    refine wrV (As := []) (rest := []) (wr := []) (w2 := (fun u : US => (wMod cI cZ cQ b mday mdoo mdA mdB mfar mmar mtel mgai mfal mtop mstr mgho mfai mpto mwal mahd mahf mcho mbes mbyt mtxt mpos_c4 mtka_c5 mtok_c6 mdig_c7 mnum_c8 (u.1 0 0) mrdm mrea_u11 mlin mlne mthg mord mbor mbsm mans mand manr mali))) ⟨hx, hb, hml, hown, hts⟩ (k_X10_fails l dC dI cI cZ cQ b mday mdoo mdA mdB mfar mmar mtel mgai mfal mtop mstr mgho mfai mpto mwal mahd mahf mcho mbes mbyt mtxt mpos_c4 mtka_c5 mtok_c6 mdig_c7 mnum_c8 mfau mrdm mrea_u11 mlin mlne mthg mord mbor mbsm mans mand manr mali _ r_mday r_mdoo r_mdA r_mdB r_mmar r_mgai r_mfal r_mtop r_mstr r_mgho r_mfai r_mahd r_mahf r_mcho r_mbyt h2_1 r_mrdm r_mlin r_mthg r_mord r_mans) (cwV 0 hts gX10_isLine_X10_fails rfl rfl rfl (by decide +kernel) ⟨Nat.le_of_ble_eq_true rfl, Nat.le_of_ble_eq_true rfl⟩) hP hD hS hA hK hN [0, 1, 2, 3, 4, 5, 6, 7, 8, 9, 10, 11, 12, 13, 14, 15, 16, 17, 18, 19, 20, 21, 22, 23, 24, 25] [] [0, 1, 2, 3, 4, 5, 6, 7, 8, 9, 10, 11, 12, 13, 14, 15, 16, 17, 18, 19, 20, 21, 22, 23, 24, 25] rfl rfl (by decide) (by decide) (by decide) (fun _ => rfl) (by decide) 0 10 rfl rfl rfl hl.1 rfl (Nat.le_of_ble_eq_true rfl) dX10_isLine_213 ⟨Nat.le_of_ble_eq_true rfl, Nat.le_of_ble_eq_true rfl⟩ (fun r92 u94 H locs h93 hP hD hS => ?_)
    obtain ⟨mfau_c95, emfau_c95⟩ : ∃ f : Int32, f = (u94.1 0 0) := ⟨_, rfl⟩
    have hP : va_P (dC, dI) vwCl (wMod cI cZ cQ b mday mdoo mdA mdB mfar mmar mtel mgai mfal mtop mstr mgho mfai mpto mwal mahd mahf mcho mbes mbyt mtxt mpos_c4 mtka_c5 mtok_c6 mdig_c7 mnum_c8 mfau_c95 mrdm mrea_u11 mlin mlne mthg mord mbor mbsm mans mand manr mali) H := by rw [emfau_c95]; exact hP
    have hD : va_D A (wMod cI cZ cQ b mday mdoo mdA mdB mfar mmar mtel mgai mfal mtop mstr mgho mfai mpto mwal mahd mahf mcho mbes mbyt mtxt mpos_c4 mtka_c5 mtok_c6 mdig_c7 mnum_c8 mfau_c95 mrdm mrea_u11 mlin mlne mthg mord mbor mbsm mans mand manr mali) := by rw [emfau_c95]; exact hD
    have h93 : ((((r92 = 0)))) := by (try rw [emfau_c95]); exact h93
    rcases h93 with (rfl)
    · exact W.zret (v := 0) hx hb hr (by decide) (fun tq ht hW => ⟨⟨0, (uS [(fun _ => mpos_c4), (fun _ => mtka_c5), (fun _ => 0), (fun _ => mdig_c7), (fun _ => mnum_c8), (fun _ => mfau_c95), mrea_u11] mtok_c6 (fun _ => 0)), rfl, ⟨(Or.inr rfl), (show mpos_c4.toInt ≤ mbyt.toInt from by (try rw [show (0 : Int32).toInt = 0 from (show (0 : Int32).toInt = 0 from rfl)]); omega), h2_1⟩, by rw [ht]; exact hP, hD⟩, hS.F ht⟩) hS.2.2 dX10_isLine_216
  refine lv_aload_n hx hb dX10_isLine_4 rfl (lv_at hl 0 rfl) ?_
  refine va_get (D := (dC, dI)) (ci := 10) (v := .ref (b 28)) (C := RX10) (T := TX10) (N := 39) hx hb hts inX10 hown hK hP 0 rfl rfl 28 (by decide) lf65 (fun _ h9 => h9) rfl dX10_isLine_5 ?_
  refine lv_iload_n hx hb dX10_isLine_8 rfl (lv_at hl 1 rfl) ?_
  refine lv_aload_n hx hb dX10_isLine_9 rfl (lv_at hl 0 rfl) ?_
  refine va_get (D := (dC, dI)) (ci := 10) (v := .long mtok_c6) (C := RX10) (T := TX10) (N := 39) hx hb hts inX10 hown hK hP 0 rfl rfl 23 (by decide) lf160 (fun _ h9 => h9) rfl dX10_isLine_10 ?_
  refine lv_ldc2 (v := 365647) hx hb hown (hts (.constantLong RX10 184 (365647)) (by decide +kernel)) dX10_isLine_13 ?_
  refine W.lcmp hx hb dX10_isLine_16 ?_
  refine lv_if_ne (tgt := 24) hx hb dX10_isLine_17 (by decide) (fun c96 => ?_) (fun c96 => ?_)
  · have dc96 : (lg_cmp mtok_c6 365647).toInt ≠ 0 := neC rfl (show (0 : Int32).toInt = 0 from rfl) c96
    refine lv_aload_n hx hb dX10_isLine_24 rfl (lv_at hl 0 rfl) ?_
    refine va_get (D := (dC, dI)) (ci := 10) (v := .long mtok_c6) (C := RX10) (T := TX10) (N := 39) hx hb hts inX10 hown hK hP 0 rfl rfl 23 (by decide) lf160 (fun _ h9 => h9) rfl dX10_isLine_25 ?_
    refine lv_ldc2 (v := 670208) hx hb hown (hts (.constantLong RX10 186 (670208)) (by decide +kernel)) dX10_isLine_28 ?_
    refine W.lcmp hx hb dX10_isLine_31 ?_
    refine lv_if_ne (tgt := 39) hx hb dX10_isLine_32 (by decide) (fun c97 => ?_) (fun c97 => ?_)
    · have dc97 : (lg_cmp mtok_c6 670208).toInt ≠ 0 := neC rfl (show (0 : Int32).toInt = 0 from rfl) c97
      refine lv_aload_n hx hb dX10_isLine_39 rfl (lv_at hl 0 rfl) ?_
      refine va_get (D := (dC, dI)) (ci := 10) (v := .long mtok_c6) (C := RX10) (T := TX10) (N := 39) hx hb hts inX10 hown hK hP 0 rfl rfl 23 (by decide) lf160 (fun _ h9 => h9) rfl dX10_isLine_40 ?_
      refine lv_ldc2 (v := 847604) hx hb hown (hts (.constantLong RX10 188 (847604)) (by decide +kernel)) dX10_isLine_43 ?_
      refine W.lcmp hx hb dX10_isLine_46 ?_
      refine lv_if_ne (tgt := 54) hx hb dX10_isLine_47 (by decide) (fun c98 => ?_) (fun c98 => ?_)
      · have dc98 : (lg_cmp mtok_c6 847604).toInt ≠ 0 := neC rfl (show (0 : Int32).toInt = 0 from rfl) c98
        refine lv_aload_n hx hb dX10_isLine_54 rfl (lv_at hl 0 rfl) ?_
        refine va_get (D := (dC, dI)) (ci := 10) (v := .long mtok_c6) (C := RX10) (T := TX10) (N := 39) hx hb hts inX10 hown hK hP 0 rfl rfl 23 (by decide) lf160 (fun _ h9 => h9) rfl dX10_isLine_55 ?_
        refine lv_ldc2 (v := 453773) hx hb hown (hts (.constantLong RX10 190 (453773)) (by decide +kernel)) dX10_isLine_58 ?_
        refine W.lcmp hx hb dX10_isLine_61 ?_
        refine lv_if_ne (tgt := 69) hx hb dX10_isLine_62 (by decide) (fun c99 => ?_) (fun c99 => ?_)
        · have dc99 : (lg_cmp mtok_c6 453773).toInt ≠ 0 := neC rfl (show (0 : Int32).toInt = 0 from rfl) c99
          refine lv_iconst (v := (-1)) hx hb dX10_isLine_69 (by decide) ?_
          have b100 : vp_in at_ 30 := inC rfl (by omega) (by omega)
          refine va_iast hx hb hK hP hD hS 17 0 rfl rfl b100 dX10_isLine_70 (fun H locs hP hD hS => ?_)
          obtain ⟨mrea_u101, emrea_u101⟩ : ∃ f : Nat → Int32, f = upd mrea at_.toNatClampNeg (-1) := ⟨_, rfl⟩
          have hP : va_P (dC, dI) vwCl (wMod cI cZ cQ b mday mdoo mdA mdB mfar mmar mtel mgai mfal mtop mstr mgho mfai mpto mwal mahd mahf mcho mbes mbyt mtxt mpos_c4 mtka_c5 mtok_c6 mdig_c7 mnum_c8 mfau mrdm mrea_u101 mlin mlne mthg mord mbor mbsm mans mand manr mali) H := by rw [emrea_u101]; exact hP
          have hD : va_D A (wMod cI cZ cQ b mday mdoo mdA mdB mfar mmar mtel mgai mfal mtop mstr mgho mfai mpto mwal mahd mahf mcho mbes mbyt mtxt mpos_c4 mtka_c5 mtok_c6 mdig_c7 mnum_c8 mfau mrdm mrea_u101 mlin mlne mthg mord mbor mbsm mans mand manr mali) := by rw [emrea_u101]; exact hD
          exact L71 mrea_u101 _ _ _  hP hD hS (lv_sub hl [0, 1] rfl)
        · have dc99 : (lg_cmp mtok_c6 453773).toInt = 0 := eqC rfl (show (0 : Int32).toInt = 0 from rfl) c99
          refine lv_iconst (v := 3) hx hb dX10_isLine_65 (by decide) ?_
          refine lv_goto (tgt := 70) hx hb dX10_isLine_66 (by decide) ?_
          have b102 : vp_in at_ 30 := inC rfl (by omega) (by omega)
          refine va_iast hx hb hK hP hD hS 17 0 rfl rfl b102 dX10_isLine_70 (fun H locs hP hD hS => ?_)
          obtain ⟨mrea_u103, emrea_u103⟩ : ∃ f : Nat → Int32, f = upd mrea at_.toNatClampNeg 3 := ⟨_, rfl⟩
          have hP : va_P (dC, dI) vwCl (wMod cI cZ cQ b mday mdoo mdA mdB mfar mmar mtel mgai mfal mtop mstr mgho mfai mpto mwal mahd mahf mcho mbes mbyt mtxt mpos_c4 mtka_c5 mtok_c6 mdig_c7 mnum_c8 mfau mrdm mrea_u103 mlin mlne mthg mord mbor mbsm mans mand manr mali) H := by rw [emrea_u103]; exact hP
          have hD : va_D A (wMod cI cZ cQ b mday mdoo mdA mdB mfar mmar mtel mgai mfal mtop mstr mgho mfai mpto mwal mahd mahf mcho mbes mbyt mtxt mpos_c4 mtka_c5 mtok_c6 mdig_c7 mnum_c8 mfau mrdm mrea_u103 mlin mlne mthg mord mbor mbsm mans mand manr mali) := by rw [emrea_u103]; exact hD
          exact L71 mrea_u103 _ _ _  hP hD hS (lv_sub hl [0, 1] rfl)
      · have dc98 : (lg_cmp mtok_c6 847604).toInt = 0 := eqC rfl (show (0 : Int32).toInt = 0 from rfl) c98
        refine lv_iconst (v := 2) hx hb dX10_isLine_50 (by decide) ?_
        refine lv_goto (tgt := 70) hx hb dX10_isLine_51 (by decide) ?_
        have b104 : vp_in at_ 30 := inC rfl (by omega) (by omega)
        refine va_iast hx hb hK hP hD hS 17 0 rfl rfl b104 dX10_isLine_70 (fun H locs hP hD hS => ?_)
        obtain ⟨mrea_u105, emrea_u105⟩ : ∃ f : Nat → Int32, f = upd mrea at_.toNatClampNeg 2 := ⟨_, rfl⟩
        have hP : va_P (dC, dI) vwCl (wMod cI cZ cQ b mday mdoo mdA mdB mfar mmar mtel mgai mfal mtop mstr mgho mfai mpto mwal mahd mahf mcho mbes mbyt mtxt mpos_c4 mtka_c5 mtok_c6 mdig_c7 mnum_c8 mfau mrdm mrea_u105 mlin mlne mthg mord mbor mbsm mans mand manr mali) H := by rw [emrea_u105]; exact hP
        have hD : va_D A (wMod cI cZ cQ b mday mdoo mdA mdB mfar mmar mtel mgai mfal mtop mstr mgho mfai mpto mwal mahd mahf mcho mbes mbyt mtxt mpos_c4 mtka_c5 mtok_c6 mdig_c7 mnum_c8 mfau mrdm mrea_u105 mlin mlne mthg mord mbor mbsm mans mand manr mali) := by rw [emrea_u105]; exact hD
        exact L71 mrea_u105 _ _ _  hP hD hS (lv_sub hl [0, 1] rfl)
    · have dc97 : (lg_cmp mtok_c6 670208).toInt = 0 := eqC rfl (show (0 : Int32).toInt = 0 from rfl) c97
      refine lv_iconst (v := 1) hx hb dX10_isLine_35 (by decide) ?_
      refine lv_goto (tgt := 70) hx hb dX10_isLine_36 (by decide) ?_
      have b106 : vp_in at_ 30 := inC rfl (by omega) (by omega)
      refine va_iast hx hb hK hP hD hS 17 0 rfl rfl b106 dX10_isLine_70 (fun H locs hP hD hS => ?_)
      obtain ⟨mrea_u107, emrea_u107⟩ : ∃ f : Nat → Int32, f = upd mrea at_.toNatClampNeg 1 := ⟨_, rfl⟩
      have hP : va_P (dC, dI) vwCl (wMod cI cZ cQ b mday mdoo mdA mdB mfar mmar mtel mgai mfal mtop mstr mgho mfai mpto mwal mahd mahf mcho mbes mbyt mtxt mpos_c4 mtka_c5 mtok_c6 mdig_c7 mnum_c8 mfau mrdm mrea_u107 mlin mlne mthg mord mbor mbsm mans mand manr mali) H := by rw [emrea_u107]; exact hP
      have hD : va_D A (wMod cI cZ cQ b mday mdoo mdA mdB mfar mmar mtel mgai mfal mtop mstr mgho mfai mpto mwal mahd mahf mcho mbes mbyt mtxt mpos_c4 mtka_c5 mtok_c6 mdig_c7 mnum_c8 mfau mrdm mrea_u107 mlin mlne mthg mord mbor mbsm mans mand manr mali) := by rw [emrea_u107]; exact hD
      exact L71 mrea_u107 _ _ _  hP hD hS (lv_sub hl [0, 1] rfl)
  · have dc96 : (lg_cmp mtok_c6 365647).toInt = 0 := eqC rfl (show (0 : Int32).toInt = 0 from rfl) c96
    refine lv_iconst (v := 0) hx hb dX10_isLine_20 (by decide) ?_
    refine lv_goto (tgt := 70) hx hb dX10_isLine_21 (by decide) ?_
    have b108 : vp_in at_ 30 := inC rfl (by omega) (by omega)
    refine va_iast hx hb hK hP hD hS 17 0 rfl rfl b108 dX10_isLine_70 (fun H locs hP hD hS => ?_)
    obtain ⟨mrea_u109, emrea_u109⟩ : ∃ f : Nat → Int32, f = upd mrea at_.toNatClampNeg 0 := ⟨_, rfl⟩
    have hP : va_P (dC, dI) vwCl (wMod cI cZ cQ b mday mdoo mdA mdB mfar mmar mtel mgai mfal mtop mstr mgho mfai mpto mwal mahd mahf mcho mbes mbyt mtxt mpos_c4 mtka_c5 mtok_c6 mdig_c7 mnum_c8 mfau mrdm mrea_u109 mlin mlne mthg mord mbor mbsm mans mand manr mali) H := by rw [emrea_u109]; exact hP
    have hD : va_D A (wMod cI cZ cQ b mday mdoo mdA mdB mfar mmar mtel mgai mfal mtop mstr mgho mfai mpto mwal mahd mahf mcho mbes mbyt mtxt mpos_c4 mtka_c5 mtok_c6 mdig_c7 mnum_c8 mfau mrdm mrea_u109 mlin mlne mthg mord mbor mbsm mans mand manr mali) := by rw [emrea_u109]; exact hD
    exact L71 mrea_u109 _ _ _  hP hD hS (lv_sub hl [0, 1] rfl)
set_option maxHeartbeats 4000000 in
set_option maxRecDepth 100000 in
theorem k_X10_isRead (l : Launch) (dC : Nat → ClassId) (dI : Nat → Nat → Nat) (cI cZ cQ : ClassId) (b : Nat → Nat) (mday : Int32) (mdoo : Int32) (mdA : Nat → Int32) (mdB : Nat → Int32) (mfar : Nat → Int32) (mmar : Nat → Int32) (mtel : Int32) (mgai : Int32) (mfal : Nat → Int32) (mtop : Nat → Int32) (mstr : Nat → Int32) (mgho : Nat → Int32) (mfai : Nat → Int32) (mpto : Nat → Int32) (mwal : Nat → Int32) (mahd : Nat → Int32) (mahf : Nat → Int32) (mcho : Nat → Int32) (mbes : Nat → Int32) (mbyt : Int32) (mtxt : Nat → Int32) (mpos : Int32) (mtka : Int32) (mtok : Int64) (mdig : Int32) (mnum : Int32) (mfau : Int32) (mrdm : Int32) (mrea : Nat → Int32) (mlin : Int32) (mlne : Nat → Int32) (mthg : Nat → Int32) (mord : Nat → Int32) (mbor : Nat → Int32) (mbsm : Int32) (mans : Nat → Int32) (mand : Nat → Int32) (manr : Nat → Int32) (mali : Nat → Int32) (sz : Nat) (r_mday : 0 ≤ mday.toInt ∧ mday.toInt ≤ 400) (r_mdoo : 0 ≤ mdoo.toInt ∧ mdoo.toInt ≤ 14) (r_mdA : rg 14 (0) (7) mdA) (r_mdB : rg 14 (0) (7) mdB) (r_mmar : rg 24 (0) (255) mmar) (r_mgai : 0 ≤ mgai.toInt ∧ mgai.toInt ≤ 100) (r_mfal : rg 11 (0) (30) mfal) (r_mtop : rg 48 (-1) (23) mtop) (r_mstr : rg 48 (0) (100) mstr) (r_mgho : rg 48 (-1) (23) mgho) (r_mfai : rg 48 (0) (100) mfai) (r_mahd : rg 240 (0) (100) mahd) (r_mahf : rg 240 (0) (100) mahf) (r_mcho : rg 5 (-1) (9) mcho) (r_mbyt : 0 ≤ mbyt.toInt ∧ mbyt.toInt ≤ 160) (r_mpos : 0 ≤ mpos.toInt ∧ mpos.toInt ≤ 160) (r_mrdm : 0 ≤ mrdm.toInt ∧ mrdm.toInt ≤ 10) (r_mlin : 0 ≤ mlin.toInt ∧ mlin.toInt ≤ 10) (r_mthg : rg 8 (0) (31) mthg) (r_mord : rg 8 (-1) (8) mord) (r_mans : rg 4 (0) (12) mans) : KW l yX10_isRead wsX10_isRead { frames := 4, cells := 0, slots := 0, locals := 86 } (dC, dI) (TY cI cZ cQ) (wMod cI cZ cQ b mday mdoo mdA mdB mfar mmar mtel mgai mfal mtop mstr mgho mfai mpto mwal mahd mahf mcho mbes mbyt mtxt mpos mtka mtok mdig mnum mfau mrdm mrea mlin mlne mthg mord mbor mbsm mans mand manr mali) [.ref (b 39)] sz 0 0 (fun (r : Int32) (u : US) => ((((r = 1)) ∨ ((r = 0)))) ∧ (0 ≤ (u.1 0 0).toInt ∧ (u.1 0 0).toInt ≤ 160) ∧ (0 ≤ (u.1 7 0).toInt ∧ (u.1 7 0).toInt ≤ 10)) (fun u : US => (wMod cI cZ cQ b mday mdoo mdA mdB mfar mmar mtel mgai mfal mtop mstr mgho mfai mpto mwal mahd mahf mcho mbes mbyt mtxt (u.1 0 0) (u.1 1 0) u.2.1 (u.1 3 0) (u.1 4 0) (u.1 5 0) (u.1 7 0) (u.1 6) mlin mlne mthg mord mbor mbsm mans mand manr mali)) := by
  refine Met.ofW (cc := cX10_isRead) (maxL := 2) (ret := (some .boolean)) (by decide) rfl ?_
  intro p e s m args below meth c s₁ B hml hv
  obtain ⟨rfl, hsz, hP, hK, hD0, hN⟩ := hv
  have hx := B.exec
  have hb := B.bytes
  have hr := B.returns
  have hts := atoms_spec (ws := wsX10_isRead) B.pre
  have hown : s.vm.findClass RX10 = some m.cls := findClass_of_methodNamed B.named
  have hlocks := B.notSynchronized
  have lf146 := hts (.fieldLink RX10 146 "PalaceOfRoomsModel" "position" "I") (by decide +kernel)
  have inX10 : ∀ w ∈ wsX100, w ∈ wsX10_isRead := fun w h => List.mem_cons_of_mem _ (List.mem_append_right _ h)
  have lf201 := hts (.fieldLink RX10 201 "PalaceOfRoomsModel" "readMany" "I") (by decide +kernel)
  have lf160 := hts (.fieldLink RX10 160 "PalaceOfRoomsModel" "token" "J") (by decide +kernel)
  subst hsz
  have hD := hD0.self (sz := s.heap.size)
  generalize hAe : va_A (wMod cI cZ cQ b mday mdoo mdA mdB mfar mmar mtel mgai mfal mtop mstr mgho mfai mpto mwal mahd mahf mcho mbes mbyt mtxt mpos mtka mtok mdig mnum mfau mrdm mrea mlin mlne mthg mord mbor mbsm mans mand manr mali) s.heap.size = A at hD ⊢
  have hA : ∀ q : Nat, s.heap.size ≤ q → A q := fun q h => by rw [← hAe]; exact Or.inr h
  have hS : va_S A s.heap s.heap [] := va_S.rf
  have hl := lv_entry ([.ref (b 39)]) (n := 2) (Nat.le_of_ble_eq_true rfl)
  rw [lg_entry_eq]
  generalize (lg_sl ([.ref (b 39)]) ++ List.replicate (2 - (lg_sl ([.ref (b 39)])).length) Slot.unset).toArray = ls at hl ⊢
  have hl : lv_has ls 2 [(0, .ref (b 39))] := hl
  refine lv_aload_n hx hb dX10_isRead_0 rfl (lv_at hl 0 rfl) ?_
  refine lv_iconst (v := 0) hx hb dX10_isRead_1 (by decide) ?_
  refine va_put (D := (dC, dI)) (ci := 10) (v := .int 0) (ty := .int) (C := RX10) (T := TX10) (N := 39) hx hb hts inX10 tyX10 tyX10_ok nmX10 hown hK hP hD hS 0 rfl rfl 21 (by decide) lf146 (fun _ h9 => h9) rfl (by decide +kernel) rfl rfl (Nat.le_of_ble_eq_true rfl) dX10_isRead_2 (fun H locs hP hD hS => ?_)
  have g1 : 0 ≤ (0 : Int32).toInt ∧ (0 : Int32).toInt ≤ 160 := by rw [show (0 : Int32).toInt = 0 from (show (0 : Int32).toInt = 0 from rfl)]; exact ⟨by omega, by omega⟩
  have hP : va_P (dC, dI) vwCl (wMod cI cZ cQ b mday mdoo mdA mdB mfar mmar mtel mgai mfal mtop mstr mgho mfai mpto mwal mahd mahf mcho mbes mbyt mtxt 0 mtka mtok mdig mnum mfau mrdm mrea mlin mlne mthg mord mbor mbsm mans mand manr mali) H := hP
  have hD : va_D A (wMod cI cZ cQ b mday mdoo mdA mdB mfar mmar mtel mgai mfal mtop mstr mgho mfai mpto mwal mahd mahf mcho mbes mbyt mtxt 0 mtka mtok mdig mnum mfau mrdm mrea mlin mlne mthg mord mbor mbsm mans mand manr mali) := hD
  refine lv_aload_n hx hb dX10_isRead_5 rfl (lv_at hl 0 rfl) ?_
  refine lv_iconst (v := 0) hx hb dX10_isRead_6 (by decide) ?_
  refine va_put (D := (dC, dI)) (ci := 10) (v := .int 0) (ty := .int) (C := RX10) (T := TX10) (N := 39) hx hb hts inX10 tyX10 tyX10_ok nmX10 hown hK hP hD hS 0 rfl rfl 27 (by decide) lf201 (fun _ h9 => h9) rfl (by decide +kernel) rfl rfl (Nat.le_of_ble_eq_true rfl) dX10_isRead_7 (fun H locs hP hD hS => ?_)
  have g2 : 0 ≤ (0 : Int32).toInt ∧ (0 : Int32).toInt ≤ 10 := by rw [show (0 : Int32).toInt = 0 from (show (0 : Int32).toInt = 0 from rfl)]; exact ⟨by omega, by omega⟩
  have hP : va_P (dC, dI) vwCl (wMod cI cZ cQ b mday mdoo mdA mdB mfar mmar mtel mgai mfal mtop mstr mgho mfai mpto mwal mahd mahf mcho mbes mbyt mtxt 0 mtka mtok mdig mnum mfau 0 mrea mlin mlne mthg mord mbor mbsm mans mand manr mali) H := hP
  have hD : va_D A (wMod cI cZ cQ b mday mdoo mdA mdB mfar mmar mtel mgai mfal mtop mstr mgho mfai mpto mwal mahd mahf mcho mbes mbyt mtxt 0 mtka mtok mdig mnum mfau 0 mrea mlin mlne mthg mord mbor mbsm mans mand manr mali) := hD
  refine lv_iconst (v := 1) hx hb dX10_isRead_10 (by decide) ?_
  refine lv_istore_n (lv' := [(1, .int 1), (0, .ref (b 39))]) hx hb dX10_isRead_11 rfl hl (by decide) rfl (fun ls hl => ?_)
  have L12 : ∀ (nn : Nat) (y12_1 : Int32) (mpos_12 : Int32) (mtka_12 : Int32) (mtok_12 : Int64) (mdig_12 : Int32) (mnum_12 : Int32) (mfau_12 : Int32) (mrea_12 : Nat → Int32) (mrdm_12 : Int32) (H : Heap) (locs : List Loc) (ls : Array Slot), (0 ≤ mpos_12.toInt ∧ mpos_12.toInt ≤ 160) → (0 ≤ mrdm_12.toInt ∧ mrdm_12.toInt ≤ 10) → (mpos_12.toInt ≤ mbyt.toInt) → ((y12_1.toInt) = 0 ∨ mrdm_12.toInt ≤ 9) → (11 - mrdm_12.toInt).toNat < nn → va_P (dC, dI) vwCl (wMod cI cZ cQ b mday mdoo mdA mdB mfar mmar mtel mgai mfal mtop mstr mgho mfai mpto mwal mahd mahf mcho mbes mbyt mtxt mpos_12 mtka_12 mtok_12 mdig_12 mnum_12 mfau_12 mrdm_12 mrea_12 mlin mlne mthg mord mbor mbsm mans mand manr mali) H → va_D A (wMod cI cZ cQ b mday mdoo mdA mdB mfar mmar mtel mgai mfal mtop mstr mgho mfai mpto mwal mahd mahf mcho mbes mbyt mtxt mpos_12 mtka_12 mtok_12 mdig_12 mnum_12 mfau_12 mrdm_12 mrea_12 mlin mlne mthg mord mbor mbsm mans mand manr mali) → va_S A s.heap H locs → lv_has ls 2 [(0, .ref (b 39)), (1, .int y12_1)] → W p l e (headSpec wsX10_isRead { frames := 4, cells := 0, slots := 0, locals := 86 }).room s m ([.ref (b 39)] : List Value).toArray below meth c H locs 0 0 (MQ below (va_Qi (fun (r : Int32) (u : US) => ((((r = 1)) ∨ ((r = 0)))) ∧ (0 ≤ (u.1 0 0).toInt ∧ (u.1 0 0).toInt ≤ 160) ∧ (0 ≤ (u.1 7 0).toInt ∧ (u.1 7 0).toInt ≤ 10)) (Bw (dC, dI) A (fun u : US => (wMod cI cZ cQ b mday mdoo mdA mdB mfar mmar mtel mgai mfal mtop mstr mgho mfai mpto mwal mahd mahf mcho mbes mbyt mtxt (u.1 0 0) (u.1 1 0) u.2.1 (u.1 3 0) (u.1 4 0) (u.1 5 0) (u.1 7 0) (u.1 6) mlin mlne mthg mord mbor mbsm mans mand manr mali))) A) ([.ref (b 39)] : List Value).toArray s 0 0 A) (F0 m 12 ls []) := by
    intro nn
    induction nn with
    | zero =>
      intro y12_1 mpos_12 mtka_12 mtok_12 mdig_12 mnum_12 mfau_12 mrea_12 mrdm_12 H locs ls r_mpos_12 r_mrdm_12 i12_0 i12_1 hm
      exact absurd hm (Nat.not_lt_zero _)
    | succ nn ih12 =>
      intro y12_1 mpos_12 mtka_12 mtok_12 mdig_12 mnum_12 mfau_12 mrea_12 mrdm_12 H locs ls r_mpos_12 r_mrdm_12 i12_0 i12_1 hm hP hD hS hl
      refine lv_iload_n hx hb dX10_isRead_12 rfl (lv_at hl 1 rfl) ?_
      refine lv_if_eq (tgt := 74) hx hb dX10_isRead_13 (by decide) (fun c3 => ?_) (fun c3 => ?_)
      · have dc3 : y12_1.toInt = 0 := eqC rfl (show (0 : Int32).toInt = 0 from rfl) c3
        refine lv_aload_n hx hb dX10_isRead_74 rfl (lv_at hl 0 rfl) ?_
        refine va_get (D := (dC, dI)) (ci := 10) (v := .long mtok_12) (C := RX10) (T := TX10) (N := 39) hx hb hts inX10 hown hK hP 0 rfl rfl 23 (by decide) lf160 (fun _ h9 => h9) rfl dX10_isRead_75 ?_
        refine lv_ldc2 (v := (-2)) hx hb hown (hts (.constantLong RX10 158 (-2)) (by decide +kernel)) dX10_isRead_78 ?_
        refine W.lcmp hx hb dX10_isRead_81 ?_
        refine lv_if_eq (tgt := 92) hx hb dX10_isRead_82 (by decide) (fun c4 => ?_) (fun c4 => ?_)
        · have dc4 : (lg_cmp mtok_12 (-2)).toInt = 0 := eqC rfl (show (0 : Int32).toInt = 0 from rfl) c4
          refine lv_iconst (v := 1) hx hb dX10_isRead_92 (by decide) ?_
          refine lv_goto (tgt := 97) hx hb dX10_isRead_93 (by decide) ?_
          exact W.zret (v := 1) hx hb hr (by decide) (fun tq ht hW => ⟨⟨1, (uS [(fun _ => mpos_12), (fun _ => mtka_12), (fun _ => 0), (fun _ => mdig_12), (fun _ => mnum_12), (fun _ => mfau_12), mrea_12, (fun _ => mrdm_12)] mtok_12 (fun _ => 0)), rfl, ⟨(Or.inl rfl), r_mpos_12, r_mrdm_12⟩, by rw [ht]; exact hP, hD⟩, hS.F ht⟩) hS.2.2 dX10_isRead_97
        · have dc4 : (lg_cmp mtok_12 (-2)).toInt ≠ 0 := neC rfl (show (0 : Int32).toInt = 0 from rfl) c4
          refine lv_aload_n hx hb dX10_isRead_85 rfl (lv_at hl 0 rfl) ?_
          refine wrV (As := []) (rest := []) (wr := []) (w2 := (fun u : US => (wMod cI cZ cQ b mday mdoo mdA mdB mfar mmar mtel mgai mfal mtop mstr mgho mfai mpto mwal mahd mahf mcho mbes mbyt mtxt mpos_12 mtka_12 mtok_12 mdig_12 mnum_12 (u.1 0 0) mrdm_12 mrea_12 mlin mlne mthg mord mbor mbsm mans mand manr mali))) ⟨hx, hb, hml, hown, hts⟩ (k_X10_fails l dC dI cI cZ cQ b mday mdoo mdA mdB mfar mmar mtel mgai mfal mtop mstr mgho mfai mpto mwal mahd mahf mcho mbes mbyt mtxt mpos_12 mtka_12 mtok_12 mdig_12 mnum_12 mfau_12 mrdm_12 mrea_12 mlin mlne mthg mord mbor mbsm mans mand manr mali _ r_mday r_mdoo r_mdA r_mdB r_mmar r_mgai r_mfal r_mtop r_mstr r_mgho r_mfai r_mahd r_mahf r_mcho r_mbyt r_mpos_12 r_mrdm_12 r_mlin r_mthg r_mord r_mans) (cwV 0 hts gX10_isRead_X10_fails rfl rfl rfl (by decide +kernel) ⟨Nat.le_of_ble_eq_true rfl, Nat.le_of_ble_eq_true rfl⟩) hP hD hS hA hK hN [0, 1, 2, 3, 4, 5, 6, 7, 8, 9, 10, 11, 12, 13, 14, 15, 16, 17, 18, 19, 20, 21, 22, 23, 24, 25] [] [0, 1, 2, 3, 4, 5, 6, 7, 8, 9, 10, 11, 12, 13, 14, 15, 16, 17, 18, 19, 20, 21, 22, 23, 24, 25] rfl rfl (by decide) (by decide) (by decide) (fun _ => rfl) (by decide) 0 10 rfl rfl rfl hl.1 rfl (Nat.le_of_ble_eq_true rfl) dX10_isRead_86 ⟨Nat.le_of_ble_eq_true rfl, Nat.le_of_ble_eq_true rfl⟩ (fun r5 u7 H locs h6 hP hD hS => ?_)
          obtain ⟨mfau_c8, emfau_c8⟩ : ∃ f : Int32, f = (u7.1 0 0) := ⟨_, rfl⟩
          have hP : va_P (dC, dI) vwCl (wMod cI cZ cQ b mday mdoo mdA mdB mfar mmar mtel mgai mfal mtop mstr mgho mfai mpto mwal mahd mahf mcho mbes mbyt mtxt mpos_12 mtka_12 mtok_12 mdig_12 mnum_12 mfau_c8 mrdm_12 mrea_12 mlin mlne mthg mord mbor mbsm mans mand manr mali) H := by rw [emfau_c8]; exact hP
          have hD : va_D A (wMod cI cZ cQ b mday mdoo mdA mdB mfar mmar mtel mgai mfal mtop mstr mgho mfai mpto mwal mahd mahf mcho mbes mbyt mtxt mpos_12 mtka_12 mtok_12 mdig_12 mnum_12 mfau_c8 mrdm_12 mrea_12 mlin mlne mthg mord mbor mbsm mans mand manr mali) := by rw [emfau_c8]; exact hD
          have h6 : ((((r5 = 0)))) := by (try rw [emfau_c8]); exact h6
          rcases h6 with (rfl)
          · refine lv_if_eq (tgt := 96) hx hb dX10_isRead_89 (by decide) (fun _ => ?_) (fun c9 => absurd (by decide) c9)
            refine lv_iconst (v := 0) hx hb dX10_isRead_96 (by decide) ?_
            exact W.zret (v := 0) hx hb hr (by decide) (fun tq ht hW => ⟨⟨0, (uS [(fun _ => mpos_12), (fun _ => mtka_12), (fun _ => 0), (fun _ => mdig_12), (fun _ => mnum_12), (fun _ => mfau_c8), mrea_12, (fun _ => mrdm_12)] mtok_12 (fun _ => 0)), rfl, ⟨(Or.inr rfl), r_mpos_12, r_mrdm_12⟩, by rw [ht]; exact hP, hD⟩, hS.F ht⟩) hS.2.2 dX10_isRead_97
      · have dc3 : y12_1.toInt ≠ 0 := neC rfl (show (0 : Int32).toInt = 0 from rfl) c3
        refine lv_aload_n hx hb dX10_isRead_16 rfl (lv_at hl 0 rfl) ?_
        refine lv_iconst (v := 3) hx hb dX10_isRead_17 (by decide) ?_
        refine lv_aload_n hx hb dX10_isRead_18 rfl (lv_at hl 0 rfl) ?_
        refine va_get (D := (dC, dI)) (ci := 10) (v := .int mrdm_12) (C := RX10) (T := TX10) (N := 39) hx hb hts inX10 hown hK hP 0 rfl rfl 27 (by decide) lf201 (fun _ h9 => h9) rfl dX10_isRead_19 ?_
        refine lv_imul hx hb dX10_isRead_22 ?_
        have f9 : (3 * mrdm_12).toInt = (3) * (mrdm_12.toInt) := mulC (show (3 : Int32).toInt = 3 from rfl) rfl (by omega) (by omega)
        refine wrV (As := [.int (3 * mrdm_12)]) (rest := []) (wr := []) (w2 := (fun u : US => (wMod cI cZ cQ b mday mdoo mdA mdB mfar mmar mtel mgai mfal mtop mstr mgho mfai mpto mwal mahd mahf mcho mbes mbyt mtxt (u.1 0 0) (u.1 1 0) u.2.1 (u.1 3 0) (u.1 4 0) (u.1 5 0) mrdm_12 (u.1 6) mlin mlne mthg mord mbor mbsm mans mand manr mali))) ⟨hx, hb, hml, hown, hts⟩ (k_X10_isLine l dC dI cI cZ cQ b mday mdoo mdA mdB mfar mmar mtel mgai mfal mtop mstr mgho mfai mpto mwal mahd mahf mcho mbes mbyt mtxt mpos_12 mtka_12 mtok_12 mdig_12 mnum_12 mfau_12 mrdm_12 mrea_12 mlin mlne mthg mord mbor mbsm mans mand manr mali _ (3 * mrdm_12) r_mday r_mdoo r_mdA r_mdB r_mmar r_mgai r_mfal r_mtop r_mstr r_mgho r_mfai r_mahd r_mahf r_mcho r_mbyt r_mpos_12 r_mrdm_12 r_mlin r_mthg r_mord r_mans (by omega) (by omega) (by omega)) (cwV 1 hts gX10_isRead_X10_isLine rfl rfl rfl (by decide +kernel) ⟨Nat.le_of_ble_eq_true rfl, Nat.le_of_ble_eq_true rfl⟩) hP hD hS hA hK hN [0, 1, 2, 3, 4, 5, 6, 7, 8, 9, 10, 11, 12, 13, 14, 15, 16, 17, 18, 19, 20, 21, 22, 23, 24, 25] [] [0, 1, 2, 3, 4, 5, 6, 7, 8, 9, 10, 11, 12, 13, 14, 15, 16, 17, 18, 19, 20, 21, 22, 23, 24, 25] rfl rfl (by decide) (by decide) (by decide) (fun _ => rfl) (by decide) 0 10 rfl rfl rfl hl.1 rfl (Nat.le_of_ble_eq_true rfl) dX10_isRead_23 ⟨Nat.le_of_ble_eq_true rfl, Nat.le_of_ble_eq_true rfl⟩ (fun r10 u12 H locs h11 hP hD hS => ?_)
        obtain ⟨mpos_c13, empos_c13⟩ : ∃ f : Int32, f = (u12.1 0 0) := ⟨_, rfl⟩
        obtain ⟨mtka_c14, emtka_c14⟩ : ∃ f : Int32, f = (u12.1 1 0) := ⟨_, rfl⟩
        obtain ⟨mtok_c15, emtok_c15⟩ : ∃ f : Int64, f = u12.2.1 := ⟨_, rfl⟩
        obtain ⟨mdig_c16, emdig_c16⟩ : ∃ f : Int32, f = (u12.1 3 0) := ⟨_, rfl⟩
        obtain ⟨mnum_c17, emnum_c17⟩ : ∃ f : Int32, f = (u12.1 4 0) := ⟨_, rfl⟩
        obtain ⟨mfau_c18, emfau_c18⟩ : ∃ f : Int32, f = (u12.1 5 0) := ⟨_, rfl⟩
        obtain ⟨mrea_c19, emrea_c19⟩ : ∃ f : Nat → Int32, f = (u12.1 6) := ⟨_, rfl⟩
        have hP : va_P (dC, dI) vwCl (wMod cI cZ cQ b mday mdoo mdA mdB mfar mmar mtel mgai mfal mtop mstr mgho mfai mpto mwal mahd mahf mcho mbes mbyt mtxt mpos_c13 mtka_c14 mtok_c15 mdig_c16 mnum_c17 mfau_c18 mrdm_12 mrea_c19 mlin mlne mthg mord mbor mbsm mans mand manr mali) H := by rw [empos_c13, emtka_c14, emtok_c15, emdig_c16, emnum_c17, emfau_c18, emrea_c19]; exact hP
        have hD : va_D A (wMod cI cZ cQ b mday mdoo mdA mdB mfar mmar mtel mgai mfal mtop mstr mgho mfai mpto mwal mahd mahf mcho mbes mbyt mtxt mpos_c13 mtka_c14 mtok_c15 mdig_c16 mnum_c17 mfau_c18 mrdm_12 mrea_c19 mlin mlne mthg mord mbor mbsm mans mand manr mali) := by rw [empos_c13, emtka_c14, emtok_c15, emdig_c16, emnum_c17, emfau_c18, emrea_c19]; exact hD
        have h11 : ((((r10 = 1)) ∨ ((r10 = 0)))) ∧ (mpos_c13.toInt ≤ mbyt.toInt) ∧ (0 ≤ mpos_c13.toInt ∧ mpos_c13.toInt ≤ 160) := by (try rw [empos_c13]); (try rw [emtka_c14]); (try rw [emtok_c15]); (try rw [emdig_c16]); (try rw [emnum_c17]); (try rw [emfau_c18]); (try rw [emrea_c19]); exact h11
        rcases h11 with ⟨(rfl | rfl), h11_0, h11_1⟩
        · refine lv_if_ne (tgt := 31) hx hb dX10_isRead_26 (by decide) (fun _ => ?_) (fun c9 => absurd c9 (by decide))
          refine lv_aload_n hx hb dX10_isRead_31 rfl (lv_at hl 0 rfl) ?_
          refine lv_dup hx hb dX10_isRead_32 rfl ?_
          refine va_get (D := (dC, dI)) (ci := 10) (v := .int mrdm_12) (C := RX10) (T := TX10) (N := 39) hx hb hts inX10 hown hK hP 0 rfl rfl 27 (by decide) lf201 (fun _ h9 => h9) rfl dX10_isRead_33 ?_
          refine lv_iconst (v := 1) hx hb dX10_isRead_36 (by decide) ?_
          refine lv_iadd hx hb dX10_isRead_37 ?_
          have f20 : (mrdm_12 + 1).toInt = (mrdm_12.toInt) + (1) := addC rfl (show (1 : Int32).toInt = 1 from rfl) (by omega) (by omega)
          refine lv_topi (fun x21 ex21 => ?_)
          have ix21 : x21.toInt = (mrdm_12.toInt) + (1) := by rw [ex21]; exact f20
          refine va_put (D := (dC, dI)) (ci := 10) (v := .int x21) (ty := .int) (C := RX10) (T := TX10) (N := 39) hx hb hts inX10 tyX10 tyX10_ok nmX10 hown hK hP hD hS 0 rfl rfl 27 (by decide) lf201 (fun _ h9 => h9) rfl (by decide +kernel) rfl rfl (Nat.le_of_ble_eq_true rfl) dX10_isRead_38 (fun H locs hP hD hS => ?_)
          have g22 : 0 ≤ x21.toInt ∧ x21.toInt ≤ 10 := by rw [show x21.toInt = x21.toInt from rfl]; exact ⟨by omega, by omega⟩
          have hP : va_P (dC, dI) vwCl (wMod cI cZ cQ b mday mdoo mdA mdB mfar mmar mtel mgai mfal mtop mstr mgho mfai mpto mwal mahd mahf mcho mbes mbyt mtxt mpos_c13 mtka_c14 mtok_c15 mdig_c16 mnum_c17 mfau_c18 x21 mrea_c19 mlin mlne mthg mord mbor mbsm mans mand manr mali) H := hP
          have hD : va_D A (wMod cI cZ cQ b mday mdoo mdA mdB mfar mmar mtel mgai mfal mtop mstr mgho mfai mpto mwal mahd mahf mcho mbes mbyt mtxt mpos_c13 mtka_c14 mtok_c15 mdig_c16 mnum_c17 mfau_c18 x21 mrea_c19 mlin mlne mthg mord mbor mbsm mans mand manr mali) := hD
          refine lv_aload_n hx hb dX10_isRead_41 rfl (lv_at hl 0 rfl) ?_
          refine wvV (As := []) (rest := []) (wr := []) (w2 := (fun u : US => (wMod cI cZ cQ b mday mdoo mdA mdB mfar mmar mtel mgai mfal mtop mstr mgho mfai mpto mwal mahd mahf mcho mbes mbyt mtxt (u.1 0 0) (u.1 1 0) u.2.1 (u.1 3 0) (u.1 4 0) mfau_c18 x21 mrea_c19 mlin mlne mthg mord mbor mbsm mans mand manr mali))) ⟨hx, hb, hml, hown, hts⟩ (k_X10_nextToken l dC dI cI cZ cQ b mday mdoo mdA mdB mfar mmar mtel mgai mfal mtop mstr mgho mfai mpto mwal mahd mahf mcho mbes mbyt mtxt mpos_c13 mtka_c14 mtok_c15 mdig_c16 mnum_c17 mfau_c18 x21 mrea_c19 mlin mlne mthg mord mbor mbsm mans mand manr mali _ r_mday r_mdoo r_mdA r_mdB r_mmar r_mgai r_mfal r_mtop r_mstr r_mgho r_mfai r_mahd r_mahf r_mcho r_mbyt h11_1 g22 r_mlin r_mthg r_mord r_mans (by omega)) (cwV 0 hts gX10_isRead_X10_nextToken rfl rfl rfl (by decide +kernel) ⟨Nat.le_of_ble_eq_true rfl, Nat.le_of_ble_eq_true rfl⟩) hP hD hS hA hK hN [0, 1, 2, 3, 4, 5, 6, 7, 8, 9, 10, 11, 12, 13, 14, 15, 16, 17, 18, 19, 20, 21, 22, 23, 24, 25] [] [0, 1, 2, 3, 4, 5, 6, 7, 8, 9, 10, 11, 12, 13, 14, 15, 16, 17, 18, 19, 20, 21, 22, 23, 24, 25] rfl rfl (by decide) (by decide) (by decide) (fun _ => rfl) (by decide) 0 10 rfl rfl rfl hl.1 rfl (Nat.le_of_ble_eq_true rfl) dX10_isRead_42 ⟨Nat.le_of_ble_eq_true rfl, Nat.le_of_ble_eq_true rfl⟩ (fun u25 H locs h24 hP hD hS => ?_)
          obtain ⟨mpos_c26, empos_c26⟩ : ∃ f : Int32, f = (u25.1 0 0) := ⟨_, rfl⟩
          obtain ⟨mtka_c27, emtka_c27⟩ : ∃ f : Int32, f = (u25.1 1 0) := ⟨_, rfl⟩
          obtain ⟨mtok_c28, emtok_c28⟩ : ∃ f : Int64, f = u25.2.1 := ⟨_, rfl⟩
          obtain ⟨mdig_c29, emdig_c29⟩ : ∃ f : Int32, f = (u25.1 3 0) := ⟨_, rfl⟩
          obtain ⟨mnum_c30, emnum_c30⟩ : ∃ f : Int32, f = (u25.1 4 0) := ⟨_, rfl⟩
          have hP : va_P (dC, dI) vwCl (wMod cI cZ cQ b mday mdoo mdA mdB mfar mmar mtel mgai mfal mtop mstr mgho mfai mpto mwal mahd mahf mcho mbes mbyt mtxt mpos_c26 mtka_c27 mtok_c28 mdig_c29 mnum_c30 mfau_c18 x21 mrea_c19 mlin mlne mthg mord mbor mbsm mans mand manr mali) H := by rw [empos_c26, emtka_c27, emtok_c28, emdig_c29, emnum_c30]; exact hP
          have hD : va_D A (wMod cI cZ cQ b mday mdoo mdA mdB mfar mmar mtel mgai mfal mtop mstr mgho mfai mpto mwal mahd mahf mcho mbes mbyt mtxt mpos_c26 mtka_c27 mtok_c28 mdig_c29 mnum_c30 mfau_c18 x21 mrea_c19 mlin mlne mthg mord mbor mbsm mans mand manr mali) := by rw [empos_c26, emtka_c27, emtok_c28, emdig_c29, emnum_c30]; exact hD
          have h24 : (mpos_c26.toInt ≤ mbyt.toInt) ∧ (0 ≤ mpos_c26.toInt ∧ mpos_c26.toInt ≤ 160) := by (try rw [empos_c26]); (try rw [emtka_c27]); (try rw [emtok_c28]); (try rw [emdig_c29]); (try rw [emnum_c30]); exact h24
          obtain ⟨h24_0, h24_1⟩ := h24
          refine lv_aload_n hx hb dX10_isRead_45 rfl (lv_at hl 0 rfl) ?_
          refine va_get (D := (dC, dI)) (ci := 10) (v := .long mtok_c28) (C := RX10) (T := TX10) (N := 39) hx hb hts inX10 hown hK hP 0 rfl rfl 23 (by decide) lf160 (fun _ h9 => h9) rfl dX10_isRead_46 ?_
          refine lv_ldc2 (v := (-3)) hx hb hown (hts (.constantLong RX10 172 (-3)) (by decide +kernel)) dX10_isRead_49 ?_
          refine W.lcmp hx hb dX10_isRead_52 ?_
          refine lv_if_ne (tgt := 69) hx hb dX10_isRead_53 (by decide) (fun c31 => ?_) (fun c31 => ?_)
          · have dc31 : (lg_cmp mtok_c28 (-3)).toInt ≠ 0 := neC rfl (show (0 : Int32).toInt = 0 from rfl) c31
            refine lv_iconst (v := 0) hx hb dX10_isRead_69 (by decide) ?_
            refine lv_istore_n (lv' := [(1, .int 0), (0, .ref (b 39))]) hx hb dX10_isRead_70 rfl hl (by decide) rfl (fun ls hl => ?_)
            refine lv_goto (tgt := 12) hx hb dX10_isRead_71 (by decide) ?_
            have kc32 : (0 : Int32).toInt = 0 := rfl
            exact ih12 0 mpos_c26 mtka_c27 mtok_c28 mdig_c29 mnum_c30 mfau_c18 mrea_c19 x21 _ _ _ h24_1 g22 (by omega) (by omega) (by omega) hP hD hS (lv_sub hl [1, 0] rfl)
          · have dc31 : (lg_cmp mtok_c28 (-3)).toInt = 0 := eqC rfl (show (0 : Int32).toInt = 0 from rfl) c31
            refine lv_aload_n hx hb dX10_isRead_56 rfl (lv_at hl 0 rfl) ?_
            refine va_get (D := (dC, dI)) (ci := 10) (v := .int x21) (C := RX10) (T := TX10) (N := 39) hx hb hts inX10 hown hK hP 0 rfl rfl 27 (by decide) lf201 (fun _ h9 => h9) rfl dX10_isRead_57 ?_
            refine lv_bipush (v := 10) hx hb dX10_isRead_60 (by decide) ?_
            refine lv_icmp_ge (tgt := 69) hx hb dX10_isRead_62 (by decide) (fun c33 => ?_) (fun c33 => ?_)
            · have dc33 : 10 ≤ x21.toInt := leC (show (10 : Int32).toInt = 10 from rfl) rfl c33
              refine lv_iconst (v := 0) hx hb dX10_isRead_69 (by decide) ?_
              refine lv_istore_n (lv' := [(1, .int 0), (0, .ref (b 39))]) hx hb dX10_isRead_70 rfl hl (by decide) rfl (fun ls hl => ?_)
              refine lv_goto (tgt := 12) hx hb dX10_isRead_71 (by decide) ?_
              have kc34 : (0 : Int32).toInt = 0 := rfl
              exact ih12 0 mpos_c26 mtka_c27 mtok_c28 mdig_c29 mnum_c30 mfau_c18 mrea_c19 x21 _ _ _ h24_1 g22 (by omega) (by omega) (by omega) hP hD hS (lv_sub hl [1, 0] rfl)
            · have dc33 : x21.toInt < 10 := nleC (show (10 : Int32).toInt = 10 from rfl) rfl c33
              refine lv_iconst (v := 1) hx hb dX10_isRead_65 (by decide) ?_
              refine lv_goto (tgt := 70) hx hb dX10_isRead_66 (by decide) ?_
              refine lv_istore_n (lv' := [(1, .int 1), (0, .ref (b 39))]) hx hb dX10_isRead_70 rfl hl (by decide) rfl (fun ls hl => ?_)
              refine lv_goto (tgt := 12) hx hb dX10_isRead_71 (by decide) ?_
              have kc35 : (1 : Int32).toInt = 1 := rfl
              exact ih12 1 mpos_c26 mtka_c27 mtok_c28 mdig_c29 mnum_c30 mfau_c18 mrea_c19 x21 _ _ _ h24_1 g22 (by omega) (by omega) (by omega) hP hD hS (lv_sub hl [1, 0] rfl)
        · refine lv_if_ne (tgt := 31) hx hb dX10_isRead_26 (by decide) (fun c9 => absurd (by decide) c9) (fun _ => ?_)
          refine lv_iconst (v := 0) hx hb dX10_isRead_29 (by decide) ?_
          exact W.zret (v := 0) hx hb hr (by decide) (fun tq ht hW => ⟨⟨0, (uS [(fun _ => mpos_c13), (fun _ => mtka_c14), (fun _ => 0), (fun _ => mdig_c16), (fun _ => mnum_c17), (fun _ => mfau_c18), mrea_c19, (fun _ => mrdm_12)] mtok_c15 (fun _ => 0)), rfl, ⟨(Or.inr rfl), h11_1, r_mrdm_12⟩, by rw [ht]; exact hP, hD⟩, hS.F ht⟩) hS.2.2 dX10_isRead_30
  have kc36 : (1 : Int32).toInt = 1 := rfl
  have kc37 : (0 : Int32).toInt = 0 := rfl
  exact L12 _ 1 0 mtka mtok mdig mnum mfau mrea 0 _ _ _ g1 g2 (by omega) (by omega) (Nat.lt_succ_self _) hP hD hS (lv_sub hl [1, 0] rfl)
set_option maxHeartbeats 4000000 in
set_option maxRecDepth 100000 in
theorem k_X10_fault (l : Launch) (dC : Nat → ClassId) (dI : Nat → Nat → Nat) (cI cZ cQ : ClassId) (b : Nat → Nat) (mday : Int32) (mdoo : Int32) (mdA : Nat → Int32) (mdB : Nat → Int32) (mfar : Nat → Int32) (mmar : Nat → Int32) (mtel : Int32) (mgai : Int32) (mfal : Nat → Int32) (mtop : Nat → Int32) (mstr : Nat → Int32) (mgho : Nat → Int32) (mfai : Nat → Int32) (mpto : Nat → Int32) (mwal : Nat → Int32) (mahd : Nat → Int32) (mahf : Nat → Int32) (mcho : Nat → Int32) (mbes : Nat → Int32) (mbyt : Int32) (mtxt : Nat → Int32) (mpos : Int32) (mtka : Int32) (mtok : Int64) (mdig : Int32) (mnum : Int32) (mfau : Int32) (mrdm : Int32) (mrea : Nat → Int32) (mlin : Int32) (mlne : Nat → Int32) (mthg : Nat → Int32) (mord : Nat → Int32) (mbor : Nat → Int32) (mbsm : Int32) (mans : Nat → Int32) (mand : Nat → Int32) (manr : Nat → Int32) (mali : Nat → Int32) (sz : Nat) (r_mday : 0 ≤ mday.toInt ∧ mday.toInt ≤ 400) (r_mdoo : 0 ≤ mdoo.toInt ∧ mdoo.toInt ≤ 14) (r_mdA : rg 14 (0) (7) mdA) (r_mdB : rg 14 (0) (7) mdB) (r_mmar : rg 24 (0) (255) mmar) (r_mgai : 0 ≤ mgai.toInt ∧ mgai.toInt ≤ 100) (r_mfal : rg 11 (0) (30) mfal) (r_mtop : rg 48 (-1) (23) mtop) (r_mstr : rg 48 (0) (100) mstr) (r_mgho : rg 48 (-1) (23) mgho) (r_mfai : rg 48 (0) (100) mfai) (r_mahd : rg 240 (0) (100) mahd) (r_mahf : rg 240 (0) (100) mahf) (r_mcho : rg 5 (-1) (9) mcho) (r_mbyt : 0 ≤ mbyt.toInt ∧ mbyt.toInt ≤ 160) (r_mpos : 0 ≤ mpos.toInt ∧ mpos.toInt ≤ 160) (r_mrdm : 0 ≤ mrdm.toInt ∧ mrdm.toInt ≤ 10) (r_mlin : 0 ≤ mlin.toInt ∧ mlin.toInt ≤ 10) (r_mthg : rg 8 (0) (31) mthg) (r_mord : rg 8 (-1) (8) mord) (r_mans : rg 4 (0) (12) mans) : KW l yX10_fault wsX10_fault { frames := 5, cells := 0, slots := 0, locals := 107 } (dC, dI) (TY cI cZ cQ) (wMod cI cZ cQ b mday mdoo mdA mdB mfar mmar mtel mgai mfal mtop mstr mgho mfai mpto mwal mahd mahf mcho mbes mbyt mtxt mpos mtka mtok mdig mnum mfau mrdm mrea mlin mlne mthg mord mbor mbsm mans mand manr mali) [.ref (b 39)] sz 0 0 (fun (r : Int32) (u : US) => (0 ≤ (u.1 0 0).toInt ∧ (u.1 0 0).toInt ≤ 160) ∧ (0 ≤ (u.1 7 0).toInt ∧ (u.1 7 0).toInt ≤ 10)) (fun u : US => (wMod cI cZ cQ b mday mdoo mdA mdB mfar mmar mtel mgai mfal mtop mstr mgho mfai mpto mwal mahd mahf mcho mbes mbyt mtxt (u.1 0 0) (u.1 1 0) u.2.1 (u.1 3 0) (u.1 4 0) (u.1 5 0) (u.1 7 0) (u.1 6) mlin mlne mthg mord mbor mbsm mans mand manr mali)) := by
  refine Met.ofW (cc := cX10_fault) (maxL := 1) (ret := (some .int)) (by decide) rfl ?_
  intro p e s m args below meth c s₁ B hml hv
  obtain ⟨rfl, hsz, hP, hK, hD0, hN⟩ := hv
  have hx := B.exec
  have hb := B.bytes
  have hr := B.returns
  have hts := atoms_spec (ws := wsX10_fault) B.pre
  have hown : s.vm.findClass RX10 = some m.cls := findClass_of_methodNamed B.named
  have hlocks := B.notSynchronized
  have lf174 := hts (.fieldLink RX10 174 "PalaceOfRoomsModel" "faultAt" "I") (by decide +kernel)
  have inX10 : ∀ w ∈ wsX100, w ∈ wsX10_fault := fun w h => List.mem_cons_of_mem _ (List.mem_append_right _ h)
  subst hsz
  have hD := hD0.self (sz := s.heap.size)
  generalize hAe : va_A (wMod cI cZ cQ b mday mdoo mdA mdB mfar mmar mtel mgai mfal mtop mstr mgho mfai mpto mwal mahd mahf mcho mbes mbyt mtxt mpos mtka mtok mdig mnum mfau mrdm mrea mlin mlne mthg mord mbor mbsm mans mand manr mali) s.heap.size = A at hD ⊢
  have hA : ∀ q : Nat, s.heap.size ≤ q → A q := fun q h => by rw [← hAe]; exact Or.inr h
  have hS : va_S A s.heap s.heap [] := va_S.rf
  have hl := lv_entry ([.ref (b 39)]) (n := 1) (Nat.le_of_ble_eq_true rfl)
  rw [lg_entry_eq]
  generalize (lg_sl ([.ref (b 39)]) ++ List.replicate (1 - (lg_sl ([.ref (b 39)])).length) Slot.unset).toArray = ls at hl ⊢
  have hl : lv_has ls 1 [(0, .ref (b 39))] := hl
  refine lv_aload_n hx hb dX10_fault_0 rfl (lv_at hl 0 rfl) ?_
  refine wrV (As := []) (rest := []) (wr := []) (w2 := (fun u : US => (wMod cI cZ cQ b mday mdoo mdA mdB mfar mmar mtel mgai mfal mtop mstr mgho mfai mpto mwal mahd mahf mcho mbes mbyt mtxt (u.1 0 0) (u.1 1 0) u.2.1 (u.1 3 0) (u.1 4 0) (u.1 5 0) (u.1 7 0) (u.1 6) mlin mlne mthg mord mbor mbsm mans mand manr mali))) ⟨hx, hb, hml, hown, hts⟩ (k_X10_isRead l dC dI cI cZ cQ b mday mdoo mdA mdB mfar mmar mtel mgai mfal mtop mstr mgho mfai mpto mwal mahd mahf mcho mbes mbyt mtxt mpos mtka mtok mdig mnum mfau mrdm mrea mlin mlne mthg mord mbor mbsm mans mand manr mali _ r_mday r_mdoo r_mdA r_mdB r_mmar r_mgai r_mfal r_mtop r_mstr r_mgho r_mfai r_mahd r_mahf r_mcho r_mbyt r_mpos r_mrdm r_mlin r_mthg r_mord r_mans) (cwV 0 hts gX10_fault_X10_isRead rfl rfl rfl (by decide +kernel) ⟨Nat.le_of_ble_eq_true rfl, Nat.le_of_ble_eq_true rfl⟩) hP hD hS hA hK hN [0, 1, 2, 3, 4, 5, 6, 7, 8, 9, 10, 11, 12, 13, 14, 15, 16, 17, 18, 19, 20, 21, 22, 23, 24, 25] [] [0, 1, 2, 3, 4, 5, 6, 7, 8, 9, 10, 11, 12, 13, 14, 15, 16, 17, 18, 19, 20, 21, 22, 23, 24, 25] rfl rfl (by decide) (by decide) (by decide) (fun _ => rfl) (by decide) 0 10 rfl rfl rfl hl.1 rfl (Nat.le_of_ble_eq_true rfl) dX10_fault_1 ⟨Nat.le_of_ble_eq_true rfl, Nat.le_of_ble_eq_true rfl⟩ (fun r1 u3 H locs h2 hP hD hS => ?_)
  obtain ⟨mpos_c4, empos_c4⟩ : ∃ f : Int32, f = (u3.1 0 0) := ⟨_, rfl⟩
  obtain ⟨mtka_c5, emtka_c5⟩ : ∃ f : Int32, f = (u3.1 1 0) := ⟨_, rfl⟩
  obtain ⟨mtok_c6, emtok_c6⟩ : ∃ f : Int64, f = u3.2.1 := ⟨_, rfl⟩
  obtain ⟨mdig_c7, emdig_c7⟩ : ∃ f : Int32, f = (u3.1 3 0) := ⟨_, rfl⟩
  obtain ⟨mnum_c8, emnum_c8⟩ : ∃ f : Int32, f = (u3.1 4 0) := ⟨_, rfl⟩
  obtain ⟨mfau_c9, emfau_c9⟩ : ∃ f : Int32, f = (u3.1 5 0) := ⟨_, rfl⟩
  obtain ⟨mrea_c10, emrea_c10⟩ : ∃ f : Nat → Int32, f = (u3.1 6) := ⟨_, rfl⟩
  obtain ⟨mrdm_c11, emrdm_c11⟩ : ∃ f : Int32, f = (u3.1 7 0) := ⟨_, rfl⟩
  have hP : va_P (dC, dI) vwCl (wMod cI cZ cQ b mday mdoo mdA mdB mfar mmar mtel mgai mfal mtop mstr mgho mfai mpto mwal mahd mahf mcho mbes mbyt mtxt mpos_c4 mtka_c5 mtok_c6 mdig_c7 mnum_c8 mfau_c9 mrdm_c11 mrea_c10 mlin mlne mthg mord mbor mbsm mans mand manr mali) H := by rw [empos_c4, emtka_c5, emtok_c6, emdig_c7, emnum_c8, emfau_c9, emrea_c10, emrdm_c11]; exact hP
  have hD : va_D A (wMod cI cZ cQ b mday mdoo mdA mdB mfar mmar mtel mgai mfal mtop mstr mgho mfai mpto mwal mahd mahf mcho mbes mbyt mtxt mpos_c4 mtka_c5 mtok_c6 mdig_c7 mnum_c8 mfau_c9 mrdm_c11 mrea_c10 mlin mlne mthg mord mbor mbsm mans mand manr mali) := by rw [empos_c4, emtka_c5, emtok_c6, emdig_c7, emnum_c8, emfau_c9, emrea_c10, emrdm_c11]; exact hD
  have h2 : ((((r1 = 1)) ∨ ((r1 = 0)))) ∧ (0 ≤ mpos_c4.toInt ∧ mpos_c4.toInt ≤ 160) ∧ (0 ≤ mrdm_c11.toInt ∧ mrdm_c11.toInt ≤ 10) := by (try rw [empos_c4]); (try rw [emtka_c5]); (try rw [emtok_c6]); (try rw [emdig_c7]); (try rw [emnum_c8]); (try rw [emfau_c9]); (try rw [emrea_c10]); (try rw [emrdm_c11]); exact h2
  rcases h2 with ⟨(rfl | rfl), h2_0, h2_1⟩
  · refine lv_if_eq (tgt := 11) hx hb dX10_fault_4 (by decide) (fun c9 => absurd c9 (by decide)) (fun _ => ?_)
    refine lv_iconst (v := (-1)) hx hb dX10_fault_7 (by decide) ?_
    refine lv_goto (tgt := 15) hx hb dX10_fault_8 (by decide) ?_
    exact W.iret (v := (-1)) hx hb hr (fun tq ht hW => ⟨⟨(-1), (uS [(fun _ => mpos_c4), (fun _ => mtka_c5), (fun _ => 0), (fun _ => mdig_c7), (fun _ => mnum_c8), (fun _ => mfau_c9), mrea_c10, (fun _ => mrdm_c11)] mtok_c6 (fun _ => 0)), rfl, ⟨h2_0, h2_1⟩, by rw [ht]; exact hP, hD⟩, hS.F ht⟩) hS.2.2 dX10_fault_15
  · refine lv_if_eq (tgt := 11) hx hb dX10_fault_4 (by decide) (fun _ => ?_) (fun c9 => absurd (by decide) c9)
    refine lv_aload_n hx hb dX10_fault_11 rfl (lv_at hl 0 rfl) ?_
    refine va_get (D := (dC, dI)) (ci := 10) (v := .int mfau_c9) (C := RX10) (T := TX10) (N := 39) hx hb hts inX10 hown hK hP 0 rfl rfl 26 (by decide) lf174 (fun _ h9 => h9) rfl dX10_fault_12 ?_
    exact W.iret (v := mfau_c9) hx hb hr (fun tq ht hW => ⟨⟨mfau_c9, (uS [(fun _ => mpos_c4), (fun _ => mtka_c5), (fun _ => 0), (fun _ => mdig_c7), (fun _ => mnum_c8), (fun _ => mfau_c9), mrea_c10, (fun _ => mrdm_c11)] mtok_c6 (fun _ => 0)), rfl, ⟨h2_0, h2_1⟩, by rw [ht]; exact hP, hD⟩, hS.F ht⟩) hS.2.2 dX10_fault_15
set_option maxHeartbeats 4000000 in
set_option maxRecDepth 100000 in
theorem k_X10_rules (l : Launch) (dC : Nat → ClassId) (dI : Nat → Nat → Nat) (cI cZ cQ : ClassId) (b : Nat → Nat) (mday : Int32) (mdoo : Int32) (mdA : Nat → Int32) (mdB : Nat → Int32) (mfar : Nat → Int32) (mmar : Nat → Int32) (mtel : Int32) (mgai : Int32) (mfal : Nat → Int32) (mtop : Nat → Int32) (mstr : Nat → Int32) (mgho : Nat → Int32) (mfai : Nat → Int32) (mpto : Nat → Int32) (mwal : Nat → Int32) (mahd : Nat → Int32) (mahf : Nat → Int32) (mcho : Nat → Int32) (mbes : Nat → Int32) (mbyt : Int32) (mtxt : Nat → Int32) (mpos : Int32) (mtka : Int32) (mtok : Int64) (mdig : Int32) (mnum : Int32) (mfau : Int32) (mrdm : Int32) (mrea : Nat → Int32) (mlin : Int32) (mlne : Nat → Int32) (mthg : Nat → Int32) (mord : Nat → Int32) (mbor : Nat → Int32) (mbsm : Int32) (mans : Nat → Int32) (mand : Nat → Int32) (manr : Nat → Int32) (mali : Nat → Int32) (sz : Nat) (r_mday : 0 ≤ mday.toInt ∧ mday.toInt ≤ 400) (r_mdoo : 0 ≤ mdoo.toInt ∧ mdoo.toInt ≤ 14) (r_mdA : rg 14 (0) (7) mdA) (r_mdB : rg 14 (0) (7) mdB) (r_mmar : rg 24 (0) (255) mmar) (r_mgai : 0 ≤ mgai.toInt ∧ mgai.toInt ≤ 100) (r_mfal : rg 11 (0) (30) mfal) (r_mtop : rg 48 (-1) (23) mtop) (r_mstr : rg 48 (0) (100) mstr) (r_mgho : rg 48 (-1) (23) mgho) (r_mfai : rg 48 (0) (100) mfai) (r_mahd : rg 240 (0) (100) mahd) (r_mahf : rg 240 (0) (100) mahf) (r_mcho : rg 5 (-1) (9) mcho) (r_mbyt : 0 ≤ mbyt.toInt ∧ mbyt.toInt ≤ 160) (r_mpos : 0 ≤ mpos.toInt ∧ mpos.toInt ≤ 160) (r_mrdm : 0 ≤ mrdm.toInt ∧ mrdm.toInt ≤ 10) (r_mlin : 0 ≤ mlin.toInt ∧ mlin.toInt ≤ 10) (r_mthg : rg 8 (0) (31) mthg) (r_mord : rg 8 (-1) (8) mord) (r_mans : rg 4 (0) (12) mans) : KW l yX10_rules wsX10_rules { frames := 5, cells := 0, slots := 0, locals := 107 } (dC, dI) (TY cI cZ cQ) (wMod cI cZ cQ b mday mdoo mdA mdB mfar mmar mtel mgai mfal mtop mstr mgho mfai mpto mwal mahd mahf mcho mbes mbyt mtxt mpos mtka mtok mdig mnum mfau mrdm mrea mlin mlne mthg mord mbor mbsm mans mand manr mali) [.ref (b 39)] sz 0 0 (fun (r : Int32) (u : US) => (0 ≤ (u.1 0 0).toInt ∧ (u.1 0 0).toInt ≤ 160) ∧ (0 ≤ (u.1 7 0).toInt ∧ (u.1 7 0).toInt ≤ 10) ∧ (0 ≤ (u.1 9 0).toInt ∧ (u.1 9 0).toInt ≤ 10) ∧ (0 ≤ (u.1 10 0).toInt ∧ (u.1 10 0).toInt ≤ 160)) (fun u : US => (wMod cI cZ cQ b mday mdoo mdA mdB mfar mmar mtel mgai mfal mtop mstr mgho mfai mpto mwal mahd mahf mcho mbes (u.1 10 0) mtxt (u.1 0 0) (u.1 1 0) u.2.1 (u.1 3 0) (u.1 4 0) (u.1 5 0) (u.1 7 0) (u.1 6) (u.1 9 0) (u.1 8) mthg mord mbor mbsm mans mand manr mali)) := by
  refine Met.ofW (cc := cX10_rules) (maxL := 2) (ret := (some .int)) (by decide) rfl ?_
  intro p e s m args below meth c s₁ B hml hv
  obtain ⟨rfl, hsz, hP, hK, hD0, hN⟩ := hv
  have hx := B.exec
  have hb := B.bytes
  have hr := B.returns
  have hts := atoms_spec (ws := wsX10_rules) B.pre
  have hown : s.vm.findClass RX10 = some m.cls := findClass_of_methodNamed B.named
  have hlocks := B.notSynchronized
  have lf201 := hts (.fieldLink RX10 201 "PalaceOfRoomsModel" "readMany" "I") (by decide +kernel)
  have inX10 : ∀ w ∈ wsX100, w ∈ wsX10_rules := fun w h => List.mem_cons_of_mem _ (List.mem_append_right _ h)
  have lf210 := hts (.fieldLink RX10 210 "PalaceOfRoomsModel" "lines" "I") (by decide +kernel)
  have lf141 := hts (.fieldLink RX10 141 "PalaceOfRoomsModel" "bytes" "I") (by decide +kernel)
  have lf68 := hts (.fieldLink RX10 68 "PalaceOfRoomsModel" "line" "[I") (by decide +kernel)
  have lf65 := hts (.fieldLink RX10 65 "PalaceOfRoomsModel" "read" "[I") (by decide +kernel)
  subst hsz
  have hD := hD0.self (sz := s.heap.size)
  generalize hAe : va_A (wMod cI cZ cQ b mday mdoo mdA mdB mfar mmar mtel mgai mfal mtop mstr mgho mfai mpto mwal mahd mahf mcho mbes mbyt mtxt mpos mtka mtok mdig mnum mfau mrdm mrea mlin mlne mthg mord mbor mbsm mans mand manr mali) s.heap.size = A at hD ⊢
  have hA : ∀ q : Nat, s.heap.size ≤ q → A q := fun q h => by rw [← hAe]; exact Or.inr h
  have hS : va_S A s.heap s.heap [] := va_S.rf
  have hl := lv_entry ([.ref (b 39)]) (n := 2) (Nat.le_of_ble_eq_true rfl)
  rw [lg_entry_eq]
  generalize (lg_sl ([.ref (b 39)]) ++ List.replicate (2 - (lg_sl ([.ref (b 39)])).length) Slot.unset).toArray = ls at hl ⊢
  have hl : lv_has ls 2 [(0, .ref (b 39))] := hl
  refine lv_aload_n hx hb dX10_rules_0 rfl (lv_at hl 0 rfl) ?_
  refine wrV (As := []) (rest := []) (wr := []) (w2 := (fun u : US => (wMod cI cZ cQ b mday mdoo mdA mdB mfar mmar mtel mgai mfal mtop mstr mgho mfai mpto mwal mahd mahf mcho mbes mbyt mtxt (u.1 0 0) (u.1 1 0) u.2.1 (u.1 3 0) (u.1 4 0) (u.1 5 0) (u.1 7 0) (u.1 6) mlin mlne mthg mord mbor mbsm mans mand manr mali))) ⟨hx, hb, hml, hown, hts⟩ (k_X10_isRead l dC dI cI cZ cQ b mday mdoo mdA mdB mfar mmar mtel mgai mfal mtop mstr mgho mfai mpto mwal mahd mahf mcho mbes mbyt mtxt mpos mtka mtok mdig mnum mfau mrdm mrea mlin mlne mthg mord mbor mbsm mans mand manr mali _ r_mday r_mdoo r_mdA r_mdB r_mmar r_mgai r_mfal r_mtop r_mstr r_mgho r_mfai r_mahd r_mahf r_mcho r_mbyt r_mpos r_mrdm r_mlin r_mthg r_mord r_mans) (cwV 0 hts gX10_rules_X10_isRead rfl rfl rfl (by decide +kernel) ⟨Nat.le_of_ble_eq_true rfl, Nat.le_of_ble_eq_true rfl⟩) hP hD hS hA hK hN [0, 1, 2, 3, 4, 5, 6, 7, 8, 9, 10, 11, 12, 13, 14, 15, 16, 17, 18, 19, 20, 21, 22, 23, 24, 25] [] [0, 1, 2, 3, 4, 5, 6, 7, 8, 9, 10, 11, 12, 13, 14, 15, 16, 17, 18, 19, 20, 21, 22, 23, 24, 25] rfl rfl (by decide) (by decide) (by decide) (fun _ => rfl) (by decide) 0 10 rfl rfl rfl hl.1 rfl (Nat.le_of_ble_eq_true rfl) dX10_rules_1 ⟨Nat.le_of_ble_eq_true rfl, Nat.le_of_ble_eq_true rfl⟩ (fun r1 u3 H locs h2 hP hD hS => ?_)
  obtain ⟨mpos_c4, empos_c4⟩ : ∃ f : Int32, f = (u3.1 0 0) := ⟨_, rfl⟩
  obtain ⟨mtka_c5, emtka_c5⟩ : ∃ f : Int32, f = (u3.1 1 0) := ⟨_, rfl⟩
  obtain ⟨mtok_c6, emtok_c6⟩ : ∃ f : Int64, f = u3.2.1 := ⟨_, rfl⟩
  obtain ⟨mdig_c7, emdig_c7⟩ : ∃ f : Int32, f = (u3.1 3 0) := ⟨_, rfl⟩
  obtain ⟨mnum_c8, emnum_c8⟩ : ∃ f : Int32, f = (u3.1 4 0) := ⟨_, rfl⟩
  obtain ⟨mfau_c9, emfau_c9⟩ : ∃ f : Int32, f = (u3.1 5 0) := ⟨_, rfl⟩
  obtain ⟨mrea_c10, emrea_c10⟩ : ∃ f : Nat → Int32, f = (u3.1 6) := ⟨_, rfl⟩
  obtain ⟨mrdm_c11, emrdm_c11⟩ : ∃ f : Int32, f = (u3.1 7 0) := ⟨_, rfl⟩
  have hP : va_P (dC, dI) vwCl (wMod cI cZ cQ b mday mdoo mdA mdB mfar mmar mtel mgai mfal mtop mstr mgho mfai mpto mwal mahd mahf mcho mbes mbyt mtxt mpos_c4 mtka_c5 mtok_c6 mdig_c7 mnum_c8 mfau_c9 mrdm_c11 mrea_c10 mlin mlne mthg mord mbor mbsm mans mand manr mali) H := by rw [empos_c4, emtka_c5, emtok_c6, emdig_c7, emnum_c8, emfau_c9, emrea_c10, emrdm_c11]; exact hP
  have hD : va_D A (wMod cI cZ cQ b mday mdoo mdA mdB mfar mmar mtel mgai mfal mtop mstr mgho mfai mpto mwal mahd mahf mcho mbes mbyt mtxt mpos_c4 mtka_c5 mtok_c6 mdig_c7 mnum_c8 mfau_c9 mrdm_c11 mrea_c10 mlin mlne mthg mord mbor mbsm mans mand manr mali) := by rw [empos_c4, emtka_c5, emtok_c6, emdig_c7, emnum_c8, emfau_c9, emrea_c10, emrdm_c11]; exact hD
  have h2 : ((((r1 = 1)) ∨ ((r1 = 0)))) ∧ (0 ≤ mpos_c4.toInt ∧ mpos_c4.toInt ≤ 160) ∧ (0 ≤ mrdm_c11.toInt ∧ mrdm_c11.toInt ≤ 10) := by (try rw [empos_c4]); (try rw [emtka_c5]); (try rw [emtok_c6]); (try rw [emdig_c7]); (try rw [emnum_c8]); (try rw [emfau_c9]); (try rw [emrea_c10]); (try rw [emrdm_c11]); exact h2
  rcases h2 with ⟨(rfl | rfl), h2_0, h2_1⟩
  · refine lv_if_ne (tgt := 10) hx hb dX10_rules_4 (by decide) (fun _ => ?_) (fun c9 => absurd c9 (by decide))
    refine lv_iconst (v := 0) hx hb dX10_rules_10 (by decide) ?_
    refine lv_istore_n (lv' := [(1, .int 0), (0, .ref (b 39))]) hx hb dX10_rules_11 rfl hl (by decide) rfl (fun ls hl => ?_)
    have L12 : ∀ (nn : Nat) (y12_1 : Int32) (mlne_12 : Nat → Int32) (H : Heap) (locs : List Loc) (ls : Array Slot), (0 ≤ (y12_1.toInt)) → ((y12_1.toInt) ≤ 30) → (30 - (y12_1.toInt)).toNat < nn → va_P (dC, dI) vwCl (wMod cI cZ cQ b mday mdoo mdA mdB mfar mmar mtel mgai mfal mtop mstr mgho mfai mpto mwal mahd mahf mcho mbes mbyt mtxt mpos_c4 mtka_c5 mtok_c6 mdig_c7 mnum_c8 mfau_c9 mrdm_c11 mrea_c10 mlin mlne_12 mthg mord mbor mbsm mans mand manr mali) H → va_D A (wMod cI cZ cQ b mday mdoo mdA mdB mfar mmar mtel mgai mfal mtop mstr mgho mfai mpto mwal mahd mahf mcho mbes mbyt mtxt mpos_c4 mtka_c5 mtok_c6 mdig_c7 mnum_c8 mfau_c9 mrdm_c11 mrea_c10 mlin mlne_12 mthg mord mbor mbsm mans mand manr mali) → va_S A s.heap H locs → lv_has ls 2 [(0, .ref (b 39)), (1, .int y12_1)] → W p l e (headSpec wsX10_rules { frames := 5, cells := 0, slots := 0, locals := 107 }).room s m ([.ref (b 39)] : List Value).toArray below meth c H locs 0 0 (MQ below (va_Qi (fun (r : Int32) (u : US) => (0 ≤ (u.1 0 0).toInt ∧ (u.1 0 0).toInt ≤ 160) ∧ (0 ≤ (u.1 7 0).toInt ∧ (u.1 7 0).toInt ≤ 10) ∧ (0 ≤ (u.1 9 0).toInt ∧ (u.1 9 0).toInt ≤ 10) ∧ (0 ≤ (u.1 10 0).toInt ∧ (u.1 10 0).toInt ≤ 160)) (Bw (dC, dI) A (fun u : US => (wMod cI cZ cQ b mday mdoo mdA mdB mfar mmar mtel mgai mfal mtop mstr mgho mfai mpto mwal mahd mahf mcho mbes (u.1 10 0) mtxt (u.1 0 0) (u.1 1 0) u.2.1 (u.1 3 0) (u.1 4 0) (u.1 5 0) (u.1 7 0) (u.1 6) (u.1 9 0) (u.1 8) mthg mord mbor mbsm mans mand manr mali))) A) ([.ref (b 39)] : List Value).toArray s 0 0 A) (F0 m 12 ls []) := by
      intro nn
      induction nn with
      | zero =>
        intro y12_1 mlne_12 H locs ls i12_0 i12_1 hm
        exact absurd hm (Nat.not_lt_zero _)
      | succ nn ih12 =>
        intro y12_1 mlne_12 H locs ls i12_0 i12_1 hm hP hD hS hl
        refine lv_iload_n hx hb dX10_rules_12 rfl (lv_at hl 1 rfl) ?_
        refine lv_bipush (v := 30) hx hb dX10_rules_13 (by decide) ?_
        refine lv_icmp_ge (tgt := 36) hx hb dX10_rules_15 (by decide) (fun c12 => ?_) (fun c12 => ?_)
        · have dc12 : 30 ≤ y12_1.toInt := leC (show (30 : Int32).toInt = 30 from rfl) rfl c12
          refine lv_aload_n hx hb dX10_rules_36 rfl (lv_at hl 0 rfl) ?_
          refine lv_aload_n hx hb dX10_rules_37 rfl (lv_at hl 0 rfl) ?_
          refine va_get (D := (dC, dI)) (ci := 10) (v := .int mrdm_c11) (C := RX10) (T := TX10) (N := 39) hx hb hts inX10 hown hK hP 0 rfl rfl 27 (by decide) lf201 (fun _ h9 => h9) rfl dX10_rules_38 ?_
          refine va_put (D := (dC, dI)) (ci := 10) (v := .int mrdm_c11) (ty := .int) (C := RX10) (T := TX10) (N := 39) hx hb hts inX10 tyX10 tyX10_ok nmX10 hown hK hP hD hS 0 rfl rfl 29 (by decide) lf210 (fun _ h9 => h9) rfl (by decide +kernel) rfl rfl (Nat.le_of_ble_eq_true rfl) dX10_rules_41 (fun H locs hP hD hS => ?_)
          have g13 : 0 ≤ mrdm_c11.toInt ∧ mrdm_c11.toInt ≤ 10 := by rw [show mrdm_c11.toInt = mrdm_c11.toInt from rfl]; exact ⟨by omega, by omega⟩
          have hP : va_P (dC, dI) vwCl (wMod cI cZ cQ b mday mdoo mdA mdB mfar mmar mtel mgai mfal mtop mstr mgho mfai mpto mwal mahd mahf mcho mbes mbyt mtxt mpos_c4 mtka_c5 mtok_c6 mdig_c7 mnum_c8 mfau_c9 mrdm_c11 mrea_c10 mrdm_c11 mlne_12 mthg mord mbor mbsm mans mand manr mali) H := hP
          have hD : va_D A (wMod cI cZ cQ b mday mdoo mdA mdB mfar mmar mtel mgai mfal mtop mstr mgho mfai mpto mwal mahd mahf mcho mbes mbyt mtxt mpos_c4 mtka_c5 mtok_c6 mdig_c7 mnum_c8 mfau_c9 mrdm_c11 mrea_c10 mrdm_c11 mlne_12 mthg mord mbor mbsm mans mand manr mali) := hD
          refine lv_aload_n hx hb dX10_rules_44 rfl (lv_at hl 0 rfl) ?_
          refine lv_iconst (v := 0) hx hb dX10_rules_45 (by decide) ?_
          refine va_put (D := (dC, dI)) (ci := 10) (v := .int 0) (ty := .int) (C := RX10) (T := TX10) (N := 39) hx hb hts inX10 tyX10 tyX10_ok nmX10 hown hK hP hD hS 0 rfl rfl 19 (by decide) lf141 (fun _ h9 => h9) rfl (by decide +kernel) rfl rfl (Nat.le_of_ble_eq_true rfl) dX10_rules_46 (fun H locs hP hD hS => ?_)
          have g14 : 0 ≤ (0 : Int32).toInt ∧ (0 : Int32).toInt ≤ 160 := by rw [show (0 : Int32).toInt = 0 from (show (0 : Int32).toInt = 0 from rfl)]; exact ⟨by omega, by omega⟩
          have hP : va_P (dC, dI) vwCl (wMod cI cZ cQ b mday mdoo mdA mdB mfar mmar mtel mgai mfal mtop mstr mgho mfai mpto mwal mahd mahf mcho mbes 0 mtxt mpos_c4 mtka_c5 mtok_c6 mdig_c7 mnum_c8 mfau_c9 mrdm_c11 mrea_c10 mrdm_c11 mlne_12 mthg mord mbor mbsm mans mand manr mali) H := hP
          have hD : va_D A (wMod cI cZ cQ b mday mdoo mdA mdB mfar mmar mtel mgai mfal mtop mstr mgho mfai mpto mwal mahd mahf mcho mbes 0 mtxt mpos_c4 mtka_c5 mtok_c6 mdig_c7 mnum_c8 mfau_c9 mrdm_c11 mrea_c10 mrdm_c11 mlne_12 mthg mord mbor mbsm mans mand manr mali) := hD
          refine lv_aload_n hx hb dX10_rules_49 rfl (lv_at hl 0 rfl) ?_
          refine va_get (D := (dC, dI)) (ci := 10) (v := .int mrdm_c11) (C := RX10) (T := TX10) (N := 39) hx hb hts inX10 hown hK hP 0 rfl rfl 29 (by decide) lf210 (fun _ h9 => h9) rfl dX10_rules_50 ?_
          exact W.iret (v := mrdm_c11) hx hb hr (fun tq ht hW => ⟨⟨mrdm_c11, (uS [(fun _ => mpos_c4), (fun _ => mtka_c5), (fun _ => 0), (fun _ => mdig_c7), (fun _ => mnum_c8), (fun _ => mfau_c9), mrea_c10, (fun _ => mrdm_c11), mlne_12, (fun _ => mrdm_c11), (fun _ => 0)] mtok_c6 (fun _ => 0)), rfl, ⟨h2_0, h2_1, g13, g14⟩, by rw [ht]; exact hP, hD⟩, hS.F ht⟩) hS.2.2 dX10_rules_53
        · have dc12 : y12_1.toInt < 30 := nleC (show (30 : Int32).toInt = 30 from rfl) rfl c12
          refine lv_aload_n hx hb dX10_rules_18 rfl (lv_at hl 0 rfl) ?_
          refine va_get (D := (dC, dI)) (ci := 10) (v := .ref (b 30)) (C := RX10) (T := TX10) (N := 39) hx hb hts inX10 hown hK hP 0 rfl rfl 30 (by decide) lf68 (fun _ h9 => h9) rfl dX10_rules_19 ?_
          refine lv_iload_n hx hb dX10_rules_22 rfl (lv_at hl 1 rfl) ?_
          refine lv_aload_n hx hb dX10_rules_23 rfl (lv_at hl 0 rfl) ?_
          refine va_get (D := (dC, dI)) (ci := 10) (v := .ref (b 28)) (C := RX10) (T := TX10) (N := 39) hx hb hts inX10 hown hK hP 0 rfl rfl 28 (by decide) lf65 (fun _ h9 => h9) rfl dX10_rules_24 ?_
          refine lv_iload_n hx hb dX10_rules_27 rfl (lv_at hl 1 rfl) ?_
          have b15 : vp_in y12_1 30 := inC rfl (by omega) (by omega)
          refine va_iald hx hb hK hP 17 0 rfl rfl b15 dX10_rules_28 ?_
          refine lv_topi (fun x16 ex16 => ?_)
          have ix16 : x16.toInt = (mrea_c10 y12_1.toNatClampNeg).toInt := by rw [ex16]
          have b17 : vp_in y12_1 30 := inC rfl (by omega) (by omega)
          refine va_iast hx hb hK hP hD hS 18 0 rfl rfl b17 dX10_rules_29 (fun H locs hP hD hS => ?_)
          obtain ⟨mlne_u18, emlne_u18⟩ : ∃ f : Nat → Int32, f = upd mlne_12 y12_1.toNatClampNeg x16 := ⟨_, rfl⟩
          have hP : va_P (dC, dI) vwCl (wMod cI cZ cQ b mday mdoo mdA mdB mfar mmar mtel mgai mfal mtop mstr mgho mfai mpto mwal mahd mahf mcho mbes mbyt mtxt mpos_c4 mtka_c5 mtok_c6 mdig_c7 mnum_c8 mfau_c9 mrdm_c11 mrea_c10 mlin mlne_u18 mthg mord mbor mbsm mans mand manr mali) H := by rw [emlne_u18]; exact hP
          have hD : va_D A (wMod cI cZ cQ b mday mdoo mdA mdB mfar mmar mtel mgai mfal mtop mstr mgho mfai mpto mwal mahd mahf mcho mbes mbyt mtxt mpos_c4 mtka_c5 mtok_c6 mdig_c7 mnum_c8 mfau_c9 mrdm_c11 mrea_c10 mlin mlne_u18 mthg mord mbor mbsm mans mand manr mali) := by rw [emlne_u18]; exact hD
          obtain ⟨z19, ez19⟩ : ∃ y : Int32, y = y12_1 + 1 := ⟨_, rfl⟩
          have iz19 : z19.toInt = y12_1.toInt + 1 := by rw [ez19]; exact addC rfl rfl (by omega) (by omega)
          refine lv_iinc (v := z19) (lv' := [(1, .int z19), (0, .ref (b 39))]) hx hb dX10_rules_30 hl (k := 1) rfl (by rw [ez19]; rfl) (by decide) rfl (fun ls hl => ?_)
          refine lv_goto (tgt := 12) hx hb dX10_rules_33 (by decide) ?_
          exact ih12 z19 mlne_u18 _ _ _ (by omega) (by omega) (by omega) hP hD hS (lv_sub hl [1, 0] rfl)
    have kc20 : (0 : Int32).toInt = 0 := rfl
    exact L12 _ 0 mlne _ _ _ (by omega) (by omega) (Nat.lt_succ_self _) hP hD hS (lv_sub hl [1, 0] rfl)
  · refine lv_if_ne (tgt := 10) hx hb dX10_rules_4 (by decide) (fun c9 => absurd (by decide) c9) (fun _ => ?_)
    refine lv_bipush (v := (-4)) hx hb dX10_rules_7 (by decide) ?_
    exact W.iret (v := (-4)) hx hb hr (fun tq ht hW => ⟨⟨(-4), (uS [(fun _ => mpos_c4), (fun _ => mtka_c5), (fun _ => 0), (fun _ => mdig_c7), (fun _ => mnum_c8), (fun _ => mfau_c9), mrea_c10, (fun _ => mrdm_c11), mlne, (fun _ => mlin), (fun _ => mbyt)] mtok_c6 (fun _ => 0)), rfl, ⟨h2_0, h2_1, r_mlin, r_mbyt⟩, by rw [ht]; exact hP, hD⟩, hS.F ht⟩) hS.2.2 dX10_rules_9
