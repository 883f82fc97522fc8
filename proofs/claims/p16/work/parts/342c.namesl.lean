set_option maxRecDepth 20000 in
theorem dqL_law_p342c0 : dz_rn 328 (cL_law.data.toList.drop 328) [(0, 10), (0, 4), (0, 3), (0, 14), (0, 11), (0, 10), (3, 1), (0, 24), (4, 0), (0, 5), (0, 4), (0, 3), (0, 9), (0, 11)] = some [(328, .iaload, 1), (329, .aload_n 0, 1), (330, .iload_n 3, 1), (331, .iconst 2, 1), (332, .iadd, 1), (333, .iaload, 1), (334, .invokevirtual 33, 3), (337, .pop, 1), (338, .goto 910, 3), (341, .aload_n 1, 1), (342, .aload_n 0, 1), (343, .iload_n 3, 1), (344, .iconst 1, 1), (345, .iadd, 1)] := by decide +kernel
theorem dL_law_328 : decode cL_law 328 = .ok (.iaload, 1) := dz_at dqL_law_p342c0 0 rfl
theorem dL_law_329 : decode cL_law 329 = .ok (.aload_n 0, 1) := dz_at dqL_law_p342c0 1 rfl
theorem dL_law_330 : decode cL_law 330 = .ok (.iload_n 3, 1) := dz_at dqL_law_p342c0 2 rfl
theorem dL_law_331 : decode cL_law 331 = .ok (.iconst 2, 1) := dz_at dqL_law_p342c0 3 rfl
theorem dL_law_332 : decode cL_law 332 = .ok (.iadd, 1) := dz_at dqL_law_p342c0 4 rfl
theorem dL_law_333 : decode cL_law 333 = .ok (.iaload, 1) := dz_at dqL_law_p342c0 5 rfl
theorem dL_law_334 : decode cL_law 334 = .ok (.invokevirtual 33, 3) := dz_at dqL_law_p342c0 6 rfl
theorem dL_law_337 : decode cL_law 337 = .ok (.pop, 1) := dz_at dqL_law_p342c0 7 rfl
theorem dL_law_338 : decode cL_law 338 = .ok (.goto 910, 3) := dz_at dqL_law_p342c0 8 rfl
theorem dL_law_341 : decode cL_law 341 = .ok (.aload_n 1, 1) := dz_at dqL_law_p342c0 9 rfl
theorem dL_law_342 : decode cL_law 342 = .ok (.aload_n 0, 1) := dz_at dqL_law_p342c0 10 rfl
theorem dL_law_343 : decode cL_law 343 = .ok (.iload_n 3, 1) := dz_at dqL_law_p342c0 11 rfl
theorem dL_law_344 : decode cL_law 344 = .ok (.iconst 1, 1) := dz_at dqL_law_p342c0 12 rfl
theorem dL_law_345 : decode cL_law 345 = .ok (.iadd, 1) := dz_at dqL_law_p342c0 13 rfl
set_option maxRecDepth 20000 in
theorem dqL_law_p342c1 : dz_rn 346 (cL_law.data.toList.drop 346) [(0, 10), (0, 4), (0, 3), (0, 14), (0, 11), (0, 10), (3, 1), (0, 24), (0, 6), (0, 4), (0, 3), (0, 9), (0, 11), (0, 10)] = some [(346, .iaload, 1), (347, .aload_n 0, 1), (348, .iload_n 3, 1), (349, .iconst 2, 1), (350, .iadd, 1), (351, .iaload, 1), (352, .invokevirtual 34, 3), (355, .pop, 1), (356, .aload_n 2, 1), (357, .aload_n 0, 1), (358, .iload_n 3, 1), (359, .iconst 1, 1), (360, .iadd, 1), (361, .iaload, 1)] := by decide +kernel
theorem dL_law_346 : decode cL_law 346 = .ok (.iaload, 1) := dz_at dqL_law_p342c1 0 rfl
theorem dL_law_347 : decode cL_law 347 = .ok (.aload_n 0, 1) := dz_at dqL_law_p342c1 1 rfl
theorem dL_law_348 : decode cL_law 348 = .ok (.iload_n 3, 1) := dz_at dqL_law_p342c1 2 rfl
theorem dL_law_349 : decode cL_law 349 = .ok (.iconst 2, 1) := dz_at dqL_law_p342c1 3 rfl
theorem dL_law_350 : decode cL_law 350 = .ok (.iadd, 1) := dz_at dqL_law_p342c1 4 rfl
theorem dL_law_351 : decode cL_law 351 = .ok (.iaload, 1) := dz_at dqL_law_p342c1 5 rfl
theorem dL_law_352 : decode cL_law 352 = .ok (.invokevirtual 34, 3) := dz_at dqL_law_p342c1 6 rfl
theorem dL_law_355 : decode cL_law 355 = .ok (.pop, 1) := dz_at dqL_law_p342c1 7 rfl
theorem dL_law_356 : decode cL_law 356 = .ok (.aload_n 2, 1) := dz_at dqL_law_p342c1 8 rfl
theorem dL_law_357 : decode cL_law 357 = .ok (.aload_n 0, 1) := dz_at dqL_law_p342c1 9 rfl
theorem dL_law_358 : decode cL_law 358 = .ok (.iload_n 3, 1) := dz_at dqL_law_p342c1 10 rfl
theorem dL_law_359 : decode cL_law 359 = .ok (.iconst 1, 1) := dz_at dqL_law_p342c1 11 rfl
theorem dL_law_360 : decode cL_law 360 = .ok (.iadd, 1) := dz_at dqL_law_p342c1 12 rfl
theorem dL_law_361 : decode cL_law 361 = .ok (.iaload, 1) := dz_at dqL_law_p342c1 13 rfl
set_option maxRecDepth 20000 in
theorem dqL_law_p342c2 : dz_rn 362 (cL_law.data.toList.drop 362) [(0, 4), (0, 3), (0, 14), (0, 11), (0, 10), (3, 1), (0, 24), (4, 0), (0, 5), (0, 4), (0, 3), (0, 9), (0, 11), (0, 10)] = some [(362, .aload_n 0, 1), (363, .iload_n 3, 1), (364, .iconst 2, 1), (365, .iadd, 1), (366, .iaload, 1), (367, .invokevirtual 37, 3), (370, .pop, 1), (371, .goto 877, 3), (374, .aload_n 1, 1), (375, .aload_n 0, 1), (376, .iload_n 3, 1), (377, .iconst 1, 1), (378, .iadd, 1), (379, .iaload, 1)] := by decide +kernel
theorem dL_law_362 : decode cL_law 362 = .ok (.aload_n 0, 1) := dz_at dqL_law_p342c2 0 rfl
theorem dL_law_363 : decode cL_law 363 = .ok (.iload_n 3, 1) := dz_at dqL_law_p342c2 1 rfl
theorem dL_law_364 : decode cL_law 364 = .ok (.iconst 2, 1) := dz_at dqL_law_p342c2 2 rfl
theorem dL_law_365 : decode cL_law 365 = .ok (.iadd, 1) := dz_at dqL_law_p342c2 3 rfl
theorem dL_law_366 : decode cL_law 366 = .ok (.iaload, 1) := dz_at dqL_law_p342c2 4 rfl
theorem dL_law_367 : decode cL_law 367 = .ok (.invokevirtual 37, 3) := dz_at dqL_law_p342c2 5 rfl
theorem dL_law_370 : decode cL_law 370 = .ok (.pop, 1) := dz_at dqL_law_p342c2 6 rfl
theorem dL_law_371 : decode cL_law 371 = .ok (.goto 877, 3) := dz_at dqL_law_p342c2 7 rfl
theorem dL_law_374 : decode cL_law 374 = .ok (.aload_n 1, 1) := dz_at dqL_law_p342c2 8 rfl
theorem dL_law_375 : decode cL_law 375 = .ok (.aload_n 0, 1) := dz_at dqL_law_p342c2 9 rfl
theorem dL_law_376 : decode cL_law 376 = .ok (.iload_n 3, 1) := dz_at dqL_law_p342c2 10 rfl
theorem dL_law_377 : decode cL_law 377 = .ok (.iconst 1, 1) := dz_at dqL_law_p342c2 11 rfl
theorem dL_law_378 : decode cL_law 378 = .ok (.iadd, 1) := dz_at dqL_law_p342c2 12 rfl
theorem dL_law_379 : decode cL_law 379 = .ok (.iaload, 1) := dz_at dqL_law_p342c2 13 rfl
set_option maxRecDepth 20000 in
theorem dqL_law_p342c3 : dz_rn 380 (cL_law.data.toList.drop 380) [(0, 4), (0, 3), (0, 14), (0, 11), (0, 10), (3, 1), (0, 24), (0, 6), (0, 4), (0, 3), (0, 9), (0, 11), (0, 10), (0, 4)] = some [(380, .aload_n 0, 1), (381, .iload_n 3, 1), (382, .iconst 2, 1), (383, .iadd, 1), (384, .iaload, 1), (385, .invokevirtual 38, 3), (388, .pop, 1), (389, .aload_n 2, 1), (390, .aload_n 0, 1), (391, .iload_n 3, 1), (392, .iconst 1, 1), (393, .iadd, 1), (394, .iaload, 1), (395, .aload_n 0, 1)] := by decide +kernel
theorem dL_law_380 : decode cL_law 380 = .ok (.aload_n 0, 1) := dz_at dqL_law_p342c3 0 rfl
theorem dL_law_381 : decode cL_law 381 = .ok (.iload_n 3, 1) := dz_at dqL_law_p342c3 1 rfl
theorem dL_law_382 : decode cL_law 382 = .ok (.iconst 2, 1) := dz_at dqL_law_p342c3 2 rfl
theorem dL_law_383 : decode cL_law 383 = .ok (.iadd, 1) := dz_at dqL_law_p342c3 3 rfl
theorem dL_law_384 : decode cL_law 384 = .ok (.iaload, 1) := dz_at dqL_law_p342c3 4 rfl
theorem dL_law_385 : decode cL_law 385 = .ok (.invokevirtual 38, 3) := dz_at dqL_law_p342c3 5 rfl
theorem dL_law_388 : decode cL_law 388 = .ok (.pop, 1) := dz_at dqL_law_p342c3 6 rfl
theorem dL_law_389 : decode cL_law 389 = .ok (.aload_n 2, 1) := dz_at dqL_law_p342c3 7 rfl
theorem dL_law_390 : decode cL_law 390 = .ok (.aload_n 0, 1) := dz_at dqL_law_p342c3 8 rfl
theorem dL_law_391 : decode cL_law 391 = .ok (.iload_n 3, 1) := dz_at dqL_law_p342c3 9 rfl
theorem dL_law_392 : decode cL_law 392 = .ok (.iconst 1, 1) := dz_at dqL_law_p342c3 10 rfl
theorem dL_law_393 : decode cL_law 393 = .ok (.iadd, 1) := dz_at dqL_law_p342c3 11 rfl
theorem dL_law_394 : decode cL_law 394 = .ok (.iaload, 1) := dz_at dqL_law_p342c3 12 rfl
theorem dL_law_395 : decode cL_law 395 = .ok (.aload_n 0, 1) := dz_at dqL_law_p342c3 13 rfl
set_option maxRecDepth 20000 in
theorem dqL_law_p342c4 : dz_rn 396 (cL_law.data.toList.drop 396) [(0, 3), (0, 14), (0, 11), (0, 10), (3, 1), (0, 24), (4, 0), (0, 5), (0, 4), (0, 3), (0, 9), (0, 11), (0, 10), (3, 1)] = some [(396, .iload_n 3, 1), (397, .iconst 2, 1), (398, .iadd, 1), (399, .iaload, 1), (400, .invokevirtual 41, 3), (403, .pop, 1), (404, .goto 844, 3), (407, .aload_n 1, 1), (408, .aload_n 0, 1), (409, .iload_n 3, 1), (410, .iconst 1, 1), (411, .iadd, 1), (412, .iaload, 1), (413, .invokevirtual 42, 3)] := by decide +kernel
theorem dL_law_396 : decode cL_law 396 = .ok (.iload_n 3, 1) := dz_at dqL_law_p342c4 0 rfl
theorem dL_law_397 : decode cL_law 397 = .ok (.iconst 2, 1) := dz_at dqL_law_p342c4 1 rfl
theorem dL_law_398 : decode cL_law 398 = .ok (.iadd, 1) := dz_at dqL_law_p342c4 2 rfl
theorem dL_law_399 : decode cL_law 399 = .ok (.iaload, 1) := dz_at dqL_law_p342c4 3 rfl
theorem dL_law_400 : decode cL_law 400 = .ok (.invokevirtual 41, 3) := dz_at dqL_law_p342c4 4 rfl
theorem dL_law_403 : decode cL_law 403 = .ok (.pop, 1) := dz_at dqL_law_p342c4 5 rfl
theorem dL_law_404 : decode cL_law 404 = .ok (.goto 844, 3) := dz_at dqL_law_p342c4 6 rfl
theorem dL_law_407 : decode cL_law 407 = .ok (.aload_n 1, 1) := dz_at dqL_law_p342c4 7 rfl
theorem dL_law_408 : decode cL_law 408 = .ok (.aload_n 0, 1) := dz_at dqL_law_p342c4 8 rfl
theorem dL_law_409 : decode cL_law 409 = .ok (.iload_n 3, 1) := dz_at dqL_law_p342c4 9 rfl
theorem dL_law_410 : decode cL_law 410 = .ok (.iconst 1, 1) := dz_at dqL_law_p342c4 10 rfl
theorem dL_law_411 : decode cL_law 411 = .ok (.iadd, 1) := dz_at dqL_law_p342c4 11 rfl
theorem dL_law_412 : decode cL_law 412 = .ok (.iaload, 1) := dz_at dqL_law_p342c4 12 rfl
theorem dL_law_413 : decode cL_law 413 = .ok (.invokevirtual 42, 3) := dz_at dqL_law_p342c4 13 rfl
set_option maxRecDepth 20000 in
theorem dqL_law_p342c5 : dz_rn 416 (cL_law.data.toList.drop 416) [(0, 24), (0, 6), (0, 4), (0, 3)] = some [(416, .pop, 1), (417, .aload_n 2, 1), (418, .aload_n 0, 1), (419, .iload_n 3, 1)] := by decide +kernel
theorem dL_law_416 : decode cL_law 416 = .ok (.pop, 1) := dz_at dqL_law_p342c5 0 rfl
theorem dL_law_417 : decode cL_law 417 = .ok (.aload_n 2, 1) := dz_at dqL_law_p342c5 1 rfl
theorem dL_law_418 : decode cL_law 418 = .ok (.aload_n 0, 1) := dz_at dqL_law_p342c5 2 rfl
theorem dL_law_419 : decode cL_law 419 = .ok (.iload_n 3, 1) := dz_at dqL_law_p342c5 3 rfl
