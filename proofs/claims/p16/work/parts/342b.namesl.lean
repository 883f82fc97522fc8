set_option maxRecDepth 20000 in
theorem dqL_law_p342b0 : dz_rn 238 (cL_law.data.toList.drop 238) [(0, 24), (4, 0), (0, 5), (0, 4), (0, 3), (0, 9), (0, 11), (0, 10), (0, 4), (0, 3), (0, 14), (0, 11), (0, 10), (3, 1)] = some [(238, .pop, 1), (239, .goto 1009, 3), (242, .aload_n 1, 1), (243, .aload_n 0, 1), (244, .iload_n 3, 1), (245, .iconst 1, 1), (246, .iadd, 1), (247, .iaload, 1), (248, .aload_n 0, 1), (249, .iload_n 3, 1), (250, .iconst 2, 1), (251, .iadd, 1), (252, .iaload, 1), (253, .invokevirtual 22, 3)] := by decide +kernel
theorem dL_law_238 : decode cL_law 238 = .ok (.pop, 1) := dz_at dqL_law_p342b0 0 rfl
theorem dL_law_239 : decode cL_law 239 = .ok (.goto 1009, 3) := dz_at dqL_law_p342b0 1 rfl
theorem dL_law_242 : decode cL_law 242 = .ok (.aload_n 1, 1) := dz_at dqL_law_p342b0 2 rfl
theorem dL_law_243 : decode cL_law 243 = .ok (.aload_n 0, 1) := dz_at dqL_law_p342b0 3 rfl
theorem dL_law_244 : decode cL_law 244 = .ok (.iload_n 3, 1) := dz_at dqL_law_p342b0 4 rfl
theorem dL_law_245 : decode cL_law 245 = .ok (.iconst 1, 1) := dz_at dqL_law_p342b0 5 rfl
theorem dL_law_246 : decode cL_law 246 = .ok (.iadd, 1) := dz_at dqL_law_p342b0 6 rfl
theorem dL_law_247 : decode cL_law 247 = .ok (.iaload, 1) := dz_at dqL_law_p342b0 7 rfl
theorem dL_law_248 : decode cL_law 248 = .ok (.aload_n 0, 1) := dz_at dqL_law_p342b0 8 rfl
theorem dL_law_249 : decode cL_law 249 = .ok (.iload_n 3, 1) := dz_at dqL_law_p342b0 9 rfl
theorem dL_law_250 : decode cL_law 250 = .ok (.iconst 2, 1) := dz_at dqL_law_p342b0 10 rfl
theorem dL_law_251 : decode cL_law 251 = .ok (.iadd, 1) := dz_at dqL_law_p342b0 11 rfl
theorem dL_law_252 : decode cL_law 252 = .ok (.iaload, 1) := dz_at dqL_law_p342b0 12 rfl
theorem dL_law_253 : decode cL_law 253 = .ok (.invokevirtual 22, 3) := dz_at dqL_law_p342b0 13 rfl
set_option maxRecDepth 20000 in
theorem dqL_law_p342b1 : dz_rn 256 (cL_law.data.toList.drop 256) [(0, 24), (0, 6), (0, 4), (0, 3), (0, 9), (0, 11), (0, 10), (0, 4), (0, 3), (0, 14), (0, 11), (0, 10), (3, 1), (0, 24)] = some [(256, .pop, 1), (257, .aload_n 2, 1), (258, .aload_n 0, 1), (259, .iload_n 3, 1), (260, .iconst 1, 1), (261, .iadd, 1), (262, .iaload, 1), (263, .aload_n 0, 1), (264, .iload_n 3, 1), (265, .iconst 2, 1), (266, .iadd, 1), (267, .iaload, 1), (268, .invokevirtual 25, 3), (271, .pop, 1)] := by decide +kernel
theorem dL_law_256 : decode cL_law 256 = .ok (.pop, 1) := dz_at dqL_law_p342b1 0 rfl
theorem dL_law_257 : decode cL_law 257 = .ok (.aload_n 2, 1) := dz_at dqL_law_p342b1 1 rfl
theorem dL_law_258 : decode cL_law 258 = .ok (.aload_n 0, 1) := dz_at dqL_law_p342b1 2 rfl
theorem dL_law_259 : decode cL_law 259 = .ok (.iload_n 3, 1) := dz_at dqL_law_p342b1 3 rfl
theorem dL_law_260 : decode cL_law 260 = .ok (.iconst 1, 1) := dz_at dqL_law_p342b1 4 rfl
theorem dL_law_261 : decode cL_law 261 = .ok (.iadd, 1) := dz_at dqL_law_p342b1 5 rfl
theorem dL_law_262 : decode cL_law 262 = .ok (.iaload, 1) := dz_at dqL_law_p342b1 6 rfl
theorem dL_law_263 : decode cL_law 263 = .ok (.aload_n 0, 1) := dz_at dqL_law_p342b1 7 rfl
theorem dL_law_264 : decode cL_law 264 = .ok (.iload_n 3, 1) := dz_at dqL_law_p342b1 8 rfl
theorem dL_law_265 : decode cL_law 265 = .ok (.iconst 2, 1) := dz_at dqL_law_p342b1 9 rfl
theorem dL_law_266 : decode cL_law 266 = .ok (.iadd, 1) := dz_at dqL_law_p342b1 10 rfl
theorem dL_law_267 : decode cL_law 267 = .ok (.iaload, 1) := dz_at dqL_law_p342b1 11 rfl
theorem dL_law_268 : decode cL_law 268 = .ok (.invokevirtual 25, 3) := dz_at dqL_law_p342b1 12 rfl
theorem dL_law_271 : decode cL_law 271 = .ok (.pop, 1) := dz_at dqL_law_p342b1 13 rfl
set_option maxRecDepth 20000 in
theorem dqL_law_p342b2 : dz_rn 272 (cL_law.data.toList.drop 272) [(4, 0), (0, 5), (0, 4), (0, 3), (0, 9), (0, 11), (0, 10), (0, 4), (0, 3), (0, 14), (0, 11), (0, 10), (3, 1), (0, 24)] = some [(272, .goto 976, 3), (275, .aload_n 1, 1), (276, .aload_n 0, 1), (277, .iload_n 3, 1), (278, .iconst 1, 1), (279, .iadd, 1), (280, .iaload, 1), (281, .aload_n 0, 1), (282, .iload_n 3, 1), (283, .iconst 2, 1), (284, .iadd, 1), (285, .iaload, 1), (286, .invokevirtual 26, 3), (289, .pop, 1)] := by decide +kernel
theorem dL_law_272 : decode cL_law 272 = .ok (.goto 976, 3) := dz_at dqL_law_p342b2 0 rfl
theorem dL_law_275 : decode cL_law 275 = .ok (.aload_n 1, 1) := dz_at dqL_law_p342b2 1 rfl
theorem dL_law_276 : decode cL_law 276 = .ok (.aload_n 0, 1) := dz_at dqL_law_p342b2 2 rfl
theorem dL_law_277 : decode cL_law 277 = .ok (.iload_n 3, 1) := dz_at dqL_law_p342b2 3 rfl
theorem dL_law_278 : decode cL_law 278 = .ok (.iconst 1, 1) := dz_at dqL_law_p342b2 4 rfl
theorem dL_law_279 : decode cL_law 279 = .ok (.iadd, 1) := dz_at dqL_law_p342b2 5 rfl
theorem dL_law_280 : decode cL_law 280 = .ok (.iaload, 1) := dz_at dqL_law_p342b2 6 rfl
theorem dL_law_281 : decode cL_law 281 = .ok (.aload_n 0, 1) := dz_at dqL_law_p342b2 7 rfl
theorem dL_law_282 : decode cL_law 282 = .ok (.iload_n 3, 1) := dz_at dqL_law_p342b2 8 rfl
theorem dL_law_283 : decode cL_law 283 = .ok (.iconst 2, 1) := dz_at dqL_law_p342b2 9 rfl
theorem dL_law_284 : decode cL_law 284 = .ok (.iadd, 1) := dz_at dqL_law_p342b2 10 rfl
theorem dL_law_285 : decode cL_law 285 = .ok (.iaload, 1) := dz_at dqL_law_p342b2 11 rfl
theorem dL_law_286 : decode cL_law 286 = .ok (.invokevirtual 26, 3) := dz_at dqL_law_p342b2 12 rfl
theorem dL_law_289 : decode cL_law 289 = .ok (.pop, 1) := dz_at dqL_law_p342b2 13 rfl
set_option maxRecDepth 20000 in
theorem dqL_law_p342b3 : dz_rn 290 (cL_law.data.toList.drop 290) [(0, 6), (0, 4), (0, 3), (0, 9), (0, 11), (0, 10), (0, 4), (0, 3), (0, 14), (0, 11), (0, 10), (3, 1), (0, 24), (4, 0)] = some [(290, .aload_n 2, 1), (291, .aload_n 0, 1), (292, .iload_n 3, 1), (293, .iconst 1, 1), (294, .iadd, 1), (295, .iaload, 1), (296, .aload_n 0, 1), (297, .iload_n 3, 1), (298, .iconst 2, 1), (299, .iadd, 1), (300, .iaload, 1), (301, .invokevirtual 29, 3), (304, .pop, 1), (305, .goto 943, 3)] := by decide +kernel
theorem dL_law_290 : decode cL_law 290 = .ok (.aload_n 2, 1) := dz_at dqL_law_p342b3 0 rfl
theorem dL_law_291 : decode cL_law 291 = .ok (.aload_n 0, 1) := dz_at dqL_law_p342b3 1 rfl
theorem dL_law_292 : decode cL_law 292 = .ok (.iload_n 3, 1) := dz_at dqL_law_p342b3 2 rfl
theorem dL_law_293 : decode cL_law 293 = .ok (.iconst 1, 1) := dz_at dqL_law_p342b3 3 rfl
theorem dL_law_294 : decode cL_law 294 = .ok (.iadd, 1) := dz_at dqL_law_p342b3 4 rfl
theorem dL_law_295 : decode cL_law 295 = .ok (.iaload, 1) := dz_at dqL_law_p342b3 5 rfl
theorem dL_law_296 : decode cL_law 296 = .ok (.aload_n 0, 1) := dz_at dqL_law_p342b3 6 rfl
theorem dL_law_297 : decode cL_law 297 = .ok (.iload_n 3, 1) := dz_at dqL_law_p342b3 7 rfl
theorem dL_law_298 : decode cL_law 298 = .ok (.iconst 2, 1) := dz_at dqL_law_p342b3 8 rfl
theorem dL_law_299 : decode cL_law 299 = .ok (.iadd, 1) := dz_at dqL_law_p342b3 9 rfl
theorem dL_law_300 : decode cL_law 300 = .ok (.iaload, 1) := dz_at dqL_law_p342b3 10 rfl
theorem dL_law_301 : decode cL_law 301 = .ok (.invokevirtual 29, 3) := dz_at dqL_law_p342b3 11 rfl
theorem dL_law_304 : decode cL_law 304 = .ok (.pop, 1) := dz_at dqL_law_p342b3 12 rfl
theorem dL_law_305 : decode cL_law 305 = .ok (.goto 943, 3) := dz_at dqL_law_p342b3 13 rfl
set_option maxRecDepth 20000 in
theorem dqL_law_p342b4 : dz_rn 308 (cL_law.data.toList.drop 308) [(0, 5), (0, 4), (0, 3), (0, 9), (0, 11), (0, 10), (0, 4), (0, 3), (0, 14), (0, 11), (0, 10), (3, 1), (0, 24), (0, 6)] = some [(308, .aload_n 1, 1), (309, .aload_n 0, 1), (310, .iload_n 3, 1), (311, .iconst 1, 1), (312, .iadd, 1), (313, .iaload, 1), (314, .aload_n 0, 1), (315, .iload_n 3, 1), (316, .iconst 2, 1), (317, .iadd, 1), (318, .iaload, 1), (319, .invokevirtual 30, 3), (322, .pop, 1), (323, .aload_n 2, 1)] := by decide +kernel
theorem dL_law_308 : decode cL_law 308 = .ok (.aload_n 1, 1) := dz_at dqL_law_p342b4 0 rfl
theorem dL_law_309 : decode cL_law 309 = .ok (.aload_n 0, 1) := dz_at dqL_law_p342b4 1 rfl
theorem dL_law_310 : decode cL_law 310 = .ok (.iload_n 3, 1) := dz_at dqL_law_p342b4 2 rfl
theorem dL_law_311 : decode cL_law 311 = .ok (.iconst 1, 1) := dz_at dqL_law_p342b4 3 rfl
theorem dL_law_312 : decode cL_law 312 = .ok (.iadd, 1) := dz_at dqL_law_p342b4 4 rfl
theorem dL_law_313 : decode cL_law 313 = .ok (.iaload, 1) := dz_at dqL_law_p342b4 5 rfl
theorem dL_law_314 : decode cL_law 314 = .ok (.aload_n 0, 1) := dz_at dqL_law_p342b4 6 rfl
theorem dL_law_315 : decode cL_law 315 = .ok (.iload_n 3, 1) := dz_at dqL_law_p342b4 7 rfl
theorem dL_law_316 : decode cL_law 316 = .ok (.iconst 2, 1) := dz_at dqL_law_p342b4 8 rfl
theorem dL_law_317 : decode cL_law 317 = .ok (.iadd, 1) := dz_at dqL_law_p342b4 9 rfl
theorem dL_law_318 : decode cL_law 318 = .ok (.iaload, 1) := dz_at dqL_law_p342b4 10 rfl
theorem dL_law_319 : decode cL_law 319 = .ok (.invokevirtual 30, 3) := dz_at dqL_law_p342b4 11 rfl
theorem dL_law_322 : decode cL_law 322 = .ok (.pop, 1) := dz_at dqL_law_p342b4 12 rfl
theorem dL_law_323 : decode cL_law 323 = .ok (.aload_n 2, 1) := dz_at dqL_law_p342b4 13 rfl
set_option maxRecDepth 20000 in
theorem dqL_law_p342b5 : dz_rn 324 (cL_law.data.toList.drop 324) [(0, 4), (0, 3), (0, 9), (0, 11)] = some [(324, .aload_n 0, 1), (325, .iload_n 3, 1), (326, .iconst 1, 1), (327, .iadd, 1)] := by decide +kernel
theorem dL_law_324 : decode cL_law 324 = .ok (.aload_n 0, 1) := dz_at dqL_law_p342b5 0 rfl
theorem dL_law_325 : decode cL_law 325 = .ok (.iload_n 3, 1) := dz_at dqL_law_p342b5 1 rfl
theorem dL_law_326 : decode cL_law 326 = .ok (.iconst 1, 1) := dz_at dqL_law_p342b5 2 rfl
theorem dL_law_327 : decode cL_law 327 = .ok (.iadd, 1) := dz_at dqL_law_p342b5 3 rfl
