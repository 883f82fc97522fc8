set_option maxRecDepth 20000 in
theorem dqL_law_p342d0 : dz_rn 420 (cL_law.data.toList.drop 420) [(0, 9), (0, 11), (0, 10), (3, 1), (0, 24), (4, 0), (0, 5), (0, 4), (0, 3), (0, 9), (0, 11), (0, 10), (0, 4), (0, 3)] = some [(420, .iconst 1, 1), (421, .iadd, 1), (422, .iaload, 1), (423, .invokevirtual 46, 3), (426, .pop, 1), (427, .goto 821, 3), (430, .aload_n 1, 1), (431, .aload_n 0, 1), (432, .iload_n 3, 1), (433, .iconst 1, 1), (434, .iadd, 1), (435, .iaload, 1), (436, .aload_n 0, 1), (437, .iload_n 3, 1)] := by decide +kernel
theorem dL_law_420 : decode cL_law 420 = .ok (.iconst 1, 1) := dz_at dqL_law_p342d0 0 rfl
theorem dL_law_421 : decode cL_law 421 = .ok (.iadd, 1) := dz_at dqL_law_p342d0 1 rfl
theorem dL_law_422 : decode cL_law 422 = .ok (.iaload, 1) := dz_at dqL_law_p342d0 2 rfl
theorem dL_law_423 : decode cL_law 423 = .ok (.invokevirtual 46, 3) := dz_at dqL_law_p342d0 3 rfl
theorem dL_law_426 : decode cL_law 426 = .ok (.pop, 1) := dz_at dqL_law_p342d0 4 rfl
theorem dL_law_427 : decode cL_law 427 = .ok (.goto 821, 3) := dz_at dqL_law_p342d0 5 rfl
theorem dL_law_430 : decode cL_law 430 = .ok (.aload_n 1, 1) := dz_at dqL_law_p342d0 6 rfl
theorem dL_law_431 : decode cL_law 431 = .ok (.aload_n 0, 1) := dz_at dqL_law_p342d0 7 rfl
theorem dL_law_432 : decode cL_law 432 = .ok (.iload_n 3, 1) := dz_at dqL_law_p342d0 8 rfl
theorem dL_law_433 : decode cL_law 433 = .ok (.iconst 1, 1) := dz_at dqL_law_p342d0 9 rfl
theorem dL_law_434 : decode cL_law 434 = .ok (.iadd, 1) := dz_at dqL_law_p342d0 10 rfl
theorem dL_law_435 : decode cL_law 435 = .ok (.iaload, 1) := dz_at dqL_law_p342d0 11 rfl
theorem dL_law_436 : decode cL_law 436 = .ok (.aload_n 0, 1) := dz_at dqL_law_p342d0 12 rfl
theorem dL_law_437 : decode cL_law 437 = .ok (.iload_n 3, 1) := dz_at dqL_law_p342d0 13 rfl
set_option maxRecDepth 20000 in
theorem dqL_law_p342d1 : dz_rn 438 (cL_law.data.toList.drop 438) [(0, 14), (0, 11), (0, 10), (3, 1), (0, 24), (0, 6), (0, 4), (0, 3), (0, 9), (0, 11), (0, 10), (0, 4), (0, 3), (0, 14)] = some [(438, .iconst 2, 1), (439, .iadd, 1), (440, .iaload, 1), (441, .invokevirtual 47, 3), (444, .pop, 1), (445, .aload_n 2, 1), (446, .aload_n 0, 1), (447, .iload_n 3, 1), (448, .iconst 1, 1), (449, .iadd, 1), (450, .iaload, 1), (451, .aload_n 0, 1), (452, .iload_n 3, 1), (453, .iconst 2, 1)] := by decide +kernel
theorem dL_law_438 : decode cL_law 438 = .ok (.iconst 2, 1) := dz_at dqL_law_p342d1 0 rfl
theorem dL_law_439 : decode cL_law 439 = .ok (.iadd, 1) := dz_at dqL_law_p342d1 1 rfl
theorem dL_law_440 : decode cL_law 440 = .ok (.iaload, 1) := dz_at dqL_law_p342d1 2 rfl
theorem dL_law_441 : decode cL_law 441 = .ok (.invokevirtual 47, 3) := dz_at dqL_law_p342d1 3 rfl
theorem dL_law_444 : decode cL_law 444 = .ok (.pop, 1) := dz_at dqL_law_p342d1 4 rfl
theorem dL_law_445 : decode cL_law 445 = .ok (.aload_n 2, 1) := dz_at dqL_law_p342d1 5 rfl
theorem dL_law_446 : decode cL_law 446 = .ok (.aload_n 0, 1) := dz_at dqL_law_p342d1 6 rfl
theorem dL_law_447 : decode cL_law 447 = .ok (.iload_n 3, 1) := dz_at dqL_law_p342d1 7 rfl
theorem dL_law_448 : decode cL_law 448 = .ok (.iconst 1, 1) := dz_at dqL_law_p342d1 8 rfl
theorem dL_law_449 : decode cL_law 449 = .ok (.iadd, 1) := dz_at dqL_law_p342d1 9 rfl
theorem dL_law_450 : decode cL_law 450 = .ok (.iaload, 1) := dz_at dqL_law_p342d1 10 rfl
theorem dL_law_451 : decode cL_law 451 = .ok (.aload_n 0, 1) := dz_at dqL_law_p342d1 11 rfl
theorem dL_law_452 : decode cL_law 452 = .ok (.iload_n 3, 1) := dz_at dqL_law_p342d1 12 rfl
theorem dL_law_453 : decode cL_law 453 = .ok (.iconst 2, 1) := dz_at dqL_law_p342d1 13 rfl
set_option maxRecDepth 20000 in
theorem dqL_law_p342d2 : dz_rn 454 (cL_law.data.toList.drop 454) [(0, 11), (0, 10), (3, 1), (0, 24), (4, 0), (0, 5), (0, 4), (0, 3), (0, 9), (0, 11), (0, 10), (3, 1), (0, 24), (0, 6)] = some [(454, .iadd, 1), (455, .iaload, 1), (456, .invokevirtual 50, 3), (459, .pop, 1), (460, .goto 788, 3), (463, .aload_n 1, 1), (464, .aload_n 0, 1), (465, .iload_n 3, 1), (466, .iconst 1, 1), (467, .iadd, 1), (468, .iaload, 1), (469, .invokevirtual 51, 3), (472, .pop, 1), (473, .aload_n 2, 1)] := by decide +kernel
theorem dL_law_454 : decode cL_law 454 = .ok (.iadd, 1) := dz_at dqL_law_p342d2 0 rfl
theorem dL_law_455 : decode cL_law 455 = .ok (.iaload, 1) := dz_at dqL_law_p342d2 1 rfl
theorem dL_law_456 : decode cL_law 456 = .ok (.invokevirtual 50, 3) := dz_at dqL_law_p342d2 2 rfl
theorem dL_law_459 : decode cL_law 459 = .ok (.pop, 1) := dz_at dqL_law_p342d2 3 rfl
theorem dL_law_460 : decode cL_law 460 = .ok (.goto 788, 3) := dz_at dqL_law_p342d2 4 rfl
theorem dL_law_463 : decode cL_law 463 = .ok (.aload_n 1, 1) := dz_at dqL_law_p342d2 5 rfl
theorem dL_law_464 : decode cL_law 464 = .ok (.aload_n 0, 1) := dz_at dqL_law_p342d2 6 rfl
theorem dL_law_465 : decode cL_law 465 = .ok (.iload_n 3, 1) := dz_at dqL_law_p342d2 7 rfl
theorem dL_law_466 : decode cL_law 466 = .ok (.iconst 1, 1) := dz_at dqL_law_p342d2 8 rfl
theorem dL_law_467 : decode cL_law 467 = .ok (.iadd, 1) := dz_at dqL_law_p342d2 9 rfl
theorem dL_law_468 : decode cL_law 468 = .ok (.iaload, 1) := dz_at dqL_law_p342d2 10 rfl
theorem dL_law_469 : decode cL_law 469 = .ok (.invokevirtual 51, 3) := dz_at dqL_law_p342d2 11 rfl
theorem dL_law_472 : decode cL_law 472 = .ok (.pop, 1) := dz_at dqL_law_p342d2 12 rfl
theorem dL_law_473 : decode cL_law 473 = .ok (.aload_n 2, 1) := dz_at dqL_law_p342d2 13 rfl
set_option maxRecDepth 20000 in
theorem dqL_law_p342d3 : dz_rn 474 (cL_law.data.toList.drop 474) [(0, 4), (0, 3), (0, 9), (0, 11), (0, 10), (3, 1), (0, 24), (4, 0), (0, 5), (0, 4), (0, 3), (0, 9), (0, 11), (0, 10)] = some [(474, .aload_n 0, 1), (475, .iload_n 3, 1), (476, .iconst 1, 1), (477, .iadd, 1), (478, .iaload, 1), (479, .invokevirtual 54, 3), (482, .pop, 1), (483, .goto 765, 3), (486, .aload_n 1, 1), (487, .aload_n 0, 1), (488, .iload_n 3, 1), (489, .iconst 1, 1), (490, .iadd, 1), (491, .iaload, 1)] := by decide +kernel
theorem dL_law_474 : decode cL_law 474 = .ok (.aload_n 0, 1) := dz_at dqL_law_p342d3 0 rfl
theorem dL_law_475 : decode cL_law 475 = .ok (.iload_n 3, 1) := dz_at dqL_law_p342d3 1 rfl
theorem dL_law_476 : decode cL_law 476 = .ok (.iconst 1, 1) := dz_at dqL_law_p342d3 2 rfl
theorem dL_law_477 : decode cL_law 477 = .ok (.iadd, 1) := dz_at dqL_law_p342d3 3 rfl
theorem dL_law_478 : decode cL_law 478 = .ok (.iaload, 1) := dz_at dqL_law_p342d3 4 rfl
theorem dL_law_479 : decode cL_law 479 = .ok (.invokevirtual 54, 3) := dz_at dqL_law_p342d3 5 rfl
theorem dL_law_482 : decode cL_law 482 = .ok (.pop, 1) := dz_at dqL_law_p342d3 6 rfl
theorem dL_law_483 : decode cL_law 483 = .ok (.goto 765, 3) := dz_at dqL_law_p342d3 7 rfl
theorem dL_law_486 : decode cL_law 486 = .ok (.aload_n 1, 1) := dz_at dqL_law_p342d3 8 rfl
theorem dL_law_487 : decode cL_law 487 = .ok (.aload_n 0, 1) := dz_at dqL_law_p342d3 9 rfl
theorem dL_law_488 : decode cL_law 488 = .ok (.iload_n 3, 1) := dz_at dqL_law_p342d3 10 rfl
theorem dL_law_489 : decode cL_law 489 = .ok (.iconst 1, 1) := dz_at dqL_law_p342d3 11 rfl
theorem dL_law_490 : decode cL_law 490 = .ok (.iadd, 1) := dz_at dqL_law_p342d3 12 rfl
theorem dL_law_491 : decode cL_law 491 = .ok (.iaload, 1) := dz_at dqL_law_p342d3 13 rfl
set_option maxRecDepth 20000 in
theorem dqL_law_p342d4 : dz_rn 492 (cL_law.data.toList.drop 492) [(3, 1), (0, 24), (0, 6), (0, 4), (0, 3), (0, 9), (0, 11), (0, 10), (3, 1), (0, 24), (4, 0), (0, 5), (0, 4), (0, 3)] = some [(492, .invokevirtual 55, 3), (495, .pop, 1), (496, .aload_n 2, 1), (497, .aload_n 0, 1), (498, .iload_n 3, 1), (499, .iconst 1, 1), (500, .iadd, 1), (501, .iaload, 1), (502, .invokevirtual 58, 3), (505, .pop, 1), (506, .goto 742, 3), (509, .aload_n 1, 1), (510, .aload_n 0, 1), (511, .iload_n 3, 1)] := by decide +kernel
theorem dL_law_492 : decode cL_law 492 = .ok (.invokevirtual 55, 3) := dz_at dqL_law_p342d4 0 rfl
theorem dL_law_495 : decode cL_law 495 = .ok (.pop, 1) := dz_at dqL_law_p342d4 1 rfl
theorem dL_law_496 : decode cL_law 496 = .ok (.aload_n 2, 1) := dz_at dqL_law_p342d4 2 rfl
theorem dL_law_497 : decode cL_law 497 = .ok (.aload_n 0, 1) := dz_at dqL_law_p342d4 3 rfl
theorem dL_law_498 : decode cL_law 498 = .ok (.iload_n 3, 1) := dz_at dqL_law_p342d4 4 rfl
theorem dL_law_499 : decode cL_law 499 = .ok (.iconst 1, 1) := dz_at dqL_law_p342d4 5 rfl
theorem dL_law_500 : decode cL_law 500 = .ok (.iadd, 1) := dz_at dqL_law_p342d4 6 rfl
theorem dL_law_501 : decode cL_law 501 = .ok (.iaload, 1) := dz_at dqL_law_p342d4 7 rfl
theorem dL_law_502 : decode cL_law 502 = .ok (.invokevirtual 58, 3) := dz_at dqL_law_p342d4 8 rfl
theorem dL_law_505 : decode cL_law 505 = .ok (.pop, 1) := dz_at dqL_law_p342d4 9 rfl
theorem dL_law_506 : decode cL_law 506 = .ok (.goto 742, 3) := dz_at dqL_law_p342d4 10 rfl
theorem dL_law_509 : decode cL_law 509 = .ok (.aload_n 1, 1) := dz_at dqL_law_p342d4 11 rfl
theorem dL_law_510 : decode cL_law 510 = .ok (.aload_n 0, 1) := dz_at dqL_law_p342d4 12 rfl
theorem dL_law_511 : decode cL_law 511 = .ok (.iload_n 3, 1) := dz_at dqL_law_p342d4 13 rfl
set_option maxRecDepth 20000 in
theorem dqL_law_p342d5 : dz_rn 512 (cL_law.data.toList.drop 512) [(0, 9), (0, 11), (0, 10), (3, 1)] = some [(512, .iconst 1, 1), (513, .iadd, 1), (514, .iaload, 1), (515, .invokevirtual 59, 3)] := by decide +kernel
theorem dL_law_512 : decode cL_law 512 = .ok (.iconst 1, 1) := dz_at dqL_law_p342d5 0 rfl
theorem dL_law_513 : decode cL_law 513 = .ok (.iadd, 1) := dz_at dqL_law_p342d5 1 rfl
theorem dL_law_514 : decode cL_law 514 = .ok (.iaload, 1) := dz_at dqL_law_p342d5 2 rfl
theorem dL_law_515 : decode cL_law 515 = .ok (.invokevirtual 59, 3) := dz_at dqL_law_p342d5 3 rfl
