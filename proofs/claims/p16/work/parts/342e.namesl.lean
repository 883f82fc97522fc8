set_option maxRecDepth 20000 in
theorem dqL_law_p342e0 : dz_rn 518 (cL_law.data.toList.drop 518) [(0, 24), (0, 6), (0, 4), (0, 3), (0, 9), (0, 11), (0, 10), (3, 1), (0, 24), (4, 0), (0, 5), (0, 4), (0, 3), (0, 9)] = some [(518, .pop, 1), (519, .aload_n 2, 1), (520, .aload_n 0, 1), (521, .iload_n 3, 1), (522, .iconst 1, 1), (523, .iadd, 1), (524, .iaload, 1), (525, .invokevirtual 62, 3), (528, .pop, 1), (529, .goto 719, 3), (532, .aload_n 1, 1), (533, .aload_n 0, 1), (534, .iload_n 3, 1), (535, .iconst 1, 1)] := by decide +kernel
theorem dL_law_518 : decode cL_law 518 = .ok (.pop, 1) := dz_at dqL_law_p342e0 0 rfl
theorem dL_law_519 : decode cL_law 519 = .ok (.aload_n 2, 1) := dz_at dqL_law_p342e0 1 rfl
theorem dL_law_520 : decode cL_law 520 = .ok (.aload_n 0, 1) := dz_at dqL_law_p342e0 2 rfl
theorem dL_law_521 : decode cL_law 521 = .ok (.iload_n 3, 1) := dz_at dqL_law_p342e0 3 rfl
theorem dL_law_522 : decode cL_law 522 = .ok (.iconst 1, 1) := dz_at dqL_law_p342e0 4 rfl
theorem dL_law_523 : decode cL_law 523 = .ok (.iadd, 1) := dz_at dqL_law_p342e0 5 rfl
theorem dL_law_524 : decode cL_law 524 = .ok (.iaload, 1) := dz_at dqL_law_p342e0 6 rfl
theorem dL_law_525 : decode cL_law 525 = .ok (.invokevirtual 62, 3) := dz_at dqL_law_p342e0 7 rfl
theorem dL_law_528 : decode cL_law 528 = .ok (.pop, 1) := dz_at dqL_law_p342e0 8 rfl
theorem dL_law_529 : decode cL_law 529 = .ok (.goto 719, 3) := dz_at dqL_law_p342e0 9 rfl
theorem dL_law_532 : decode cL_law 532 = .ok (.aload_n 1, 1) := dz_at dqL_law_p342e0 10 rfl
theorem dL_law_533 : decode cL_law 533 = .ok (.aload_n 0, 1) := dz_at dqL_law_p342e0 11 rfl
theorem dL_law_534 : decode cL_law 534 = .ok (.iload_n 3, 1) := dz_at dqL_law_p342e0 12 rfl
theorem dL_law_535 : decode cL_law 535 = .ok (.iconst 1, 1) := dz_at dqL_law_p342e0 13 rfl
set_option maxRecDepth 20000 in
theorem dqL_law_p342e1 : dz_rn 536 (cL_law.data.toList.drop 536) [(0, 11), (0, 10), (0, 33), (2, 0), (0, 42), (0, 4), (0, 3), (0, 14), (0, 11), (0, 10), (0, 33), (3, 4), (0, 38), (0, 43)] = some [(536, .iadd, 1), (537, .iaload, 1), (538, .i2l, 1), (539, .bipush 32, 2), (541, .lshl, 1), (542, .aload_n 0, 1), (543, .iload_n 3, 1), (544, .iconst 2, 1), (545, .iadd, 1), (546, .iaload, 1), (547, .i2l, 1), (548, .ldc2_w 63, 3), (551, .land, 1), (552, .lor, 1)] := by decide +kernel
theorem dL_law_536 : decode cL_law 536 = .ok (.iadd, 1) := dz_at dqL_law_p342e1 0 rfl
theorem dL_law_537 : decode cL_law 537 = .ok (.iaload, 1) := dz_at dqL_law_p342e1 1 rfl
theorem dL_law_538 : decode cL_law 538 = .ok (.i2l, 1) := dz_at dqL_law_p342e1 2 rfl
theorem dL_law_539 : decode cL_law 539 = .ok (.bipush 32, 2) := dz_at dqL_law_p342e1 3 rfl
theorem dL_law_541 : decode cL_law 541 = .ok (.lshl, 1) := dz_at dqL_law_p342e1 4 rfl
theorem dL_law_542 : decode cL_law 542 = .ok (.aload_n 0, 1) := dz_at dqL_law_p342e1 5 rfl
theorem dL_law_543 : decode cL_law 543 = .ok (.iload_n 3, 1) := dz_at dqL_law_p342e1 6 rfl
theorem dL_law_544 : decode cL_law 544 = .ok (.iconst 2, 1) := dz_at dqL_law_p342e1 7 rfl
theorem dL_law_545 : decode cL_law 545 = .ok (.iadd, 1) := dz_at dqL_law_p342e1 8 rfl
theorem dL_law_546 : decode cL_law 546 = .ok (.iaload, 1) := dz_at dqL_law_p342e1 9 rfl
theorem dL_law_547 : decode cL_law 547 = .ok (.i2l, 1) := dz_at dqL_law_p342e1 10 rfl
theorem dL_law_548 : decode cL_law 548 = .ok (.ldc2_w 63, 3) := dz_at dqL_law_p342e1 11 rfl
theorem dL_law_551 : decode cL_law 551 = .ok (.land, 1) := dz_at dqL_law_p342e1 12 rfl
theorem dL_law_552 : decode cL_law 552 = .ok (.lor, 1) := dz_at dqL_law_p342e1 13 rfl
set_option maxRecDepth 20000 in
theorem dqL_law_p342e2 : dz_rn 553 (cL_law.data.toList.drop 553) [(0, 4), (0, 3), (0, 15), (0, 11), (0, 10), (3, 1), (0, 24), (0, 6), (0, 4), (0, 3), (0, 9), (0, 11), (0, 10), (0, 33)] = some [(553, .aload_n 0, 1), (554, .iload_n 3, 1), (555, .iconst 3, 1), (556, .iadd, 1), (557, .iaload, 1), (558, .invokevirtual 65, 3), (561, .pop, 1), (562, .aload_n 2, 1), (563, .aload_n 0, 1), (564, .iload_n 3, 1), (565, .iconst 1, 1), (566, .iadd, 1), (567, .iaload, 1), (568, .i2l, 1)] := by decide +kernel
theorem dL_law_553 : decode cL_law 553 = .ok (.aload_n 0, 1) := dz_at dqL_law_p342e2 0 rfl
theorem dL_law_554 : decode cL_law 554 = .ok (.iload_n 3, 1) := dz_at dqL_law_p342e2 1 rfl
theorem dL_law_555 : decode cL_law 555 = .ok (.iconst 3, 1) := dz_at dqL_law_p342e2 2 rfl
theorem dL_law_556 : decode cL_law 556 = .ok (.iadd, 1) := dz_at dqL_law_p342e2 3 rfl
theorem dL_law_557 : decode cL_law 557 = .ok (.iaload, 1) := dz_at dqL_law_p342e2 4 rfl
theorem dL_law_558 : decode cL_law 558 = .ok (.invokevirtual 65, 3) := dz_at dqL_law_p342e2 5 rfl
theorem dL_law_561 : decode cL_law 561 = .ok (.pop, 1) := dz_at dqL_law_p342e2 6 rfl
theorem dL_law_562 : decode cL_law 562 = .ok (.aload_n 2, 1) := dz_at dqL_law_p342e2 7 rfl
theorem dL_law_563 : decode cL_law 563 = .ok (.aload_n 0, 1) := dz_at dqL_law_p342e2 8 rfl
theorem dL_law_564 : decode cL_law 564 = .ok (.iload_n 3, 1) := dz_at dqL_law_p342e2 9 rfl
theorem dL_law_565 : decode cL_law 565 = .ok (.iconst 1, 1) := dz_at dqL_law_p342e2 10 rfl
theorem dL_law_566 : decode cL_law 566 = .ok (.iadd, 1) := dz_at dqL_law_p342e2 11 rfl
theorem dL_law_567 : decode cL_law 567 = .ok (.iaload, 1) := dz_at dqL_law_p342e2 12 rfl
theorem dL_law_568 : decode cL_law 568 = .ok (.i2l, 1) := dz_at dqL_law_p342e2 13 rfl
set_option maxRecDepth 20000 in
theorem dqL_law_p342e3 : dz_rn 569 (cL_law.data.toList.drop 569) [(2, 0), (0, 42), (0, 4), (0, 3), (0, 14), (0, 11), (0, 10), (0, 33), (3, 4), (0, 38), (0, 43), (0, 4), (0, 3), (0, 15)] = some [(569, .bipush 32, 2), (571, .lshl, 1), (572, .aload_n 0, 1), (573, .iload_n 3, 1), (574, .iconst 2, 1), (575, .iadd, 1), (576, .iaload, 1), (577, .i2l, 1), (578, .ldc2_w 63, 3), (581, .land, 1), (582, .lor, 1), (583, .aload_n 0, 1), (584, .iload_n 3, 1), (585, .iconst 3, 1)] := by decide +kernel
theorem dL_law_569 : decode cL_law 569 = .ok (.bipush 32, 2) := dz_at dqL_law_p342e3 0 rfl
theorem dL_law_571 : decode cL_law 571 = .ok (.lshl, 1) := dz_at dqL_law_p342e3 1 rfl
theorem dL_law_572 : decode cL_law 572 = .ok (.aload_n 0, 1) := dz_at dqL_law_p342e3 2 rfl
theorem dL_law_573 : decode cL_law 573 = .ok (.iload_n 3, 1) := dz_at dqL_law_p342e3 3 rfl
theorem dL_law_574 : decode cL_law 574 = .ok (.iconst 2, 1) := dz_at dqL_law_p342e3 4 rfl
theorem dL_law_575 : decode cL_law 575 = .ok (.iadd, 1) := dz_at dqL_law_p342e3 5 rfl
theorem dL_law_576 : decode cL_law 576 = .ok (.iaload, 1) := dz_at dqL_law_p342e3 6 rfl
theorem dL_law_577 : decode cL_law 577 = .ok (.i2l, 1) := dz_at dqL_law_p342e3 7 rfl
theorem dL_law_578 : decode cL_law 578 = .ok (.ldc2_w 63, 3) := dz_at dqL_law_p342e3 8 rfl
theorem dL_law_581 : decode cL_law 581 = .ok (.land, 1) := dz_at dqL_law_p342e3 9 rfl
theorem dL_law_582 : decode cL_law 582 = .ok (.lor, 1) := dz_at dqL_law_p342e3 10 rfl
theorem dL_law_583 : decode cL_law 583 = .ok (.aload_n 0, 1) := dz_at dqL_law_p342e3 11 rfl
theorem dL_law_584 : decode cL_law 584 = .ok (.iload_n 3, 1) := dz_at dqL_law_p342e3 12 rfl
theorem dL_law_585 : decode cL_law 585 = .ok (.iconst 3, 1) := dz_at dqL_law_p342e3 13 rfl
set_option maxRecDepth 20000 in
theorem dqL_law_p342e4 : dz_rn 586 (cL_law.data.toList.drop 586) [(0, 11), (0, 10), (3, 1), (0, 24), (4, 0), (0, 5), (3, 1), (0, 24), (0, 6), (3, 1), (0, 24), (4, 0), (0, 5), (3, 1)] = some [(586, .iadd, 1), (587, .iaload, 1), (588, .invokevirtual 69, 3), (591, .pop, 1), (592, .goto 656, 3), (595, .aload_n 1, 1), (596, .invokevirtual 70, 3), (599, .pop, 1), (600, .aload_n 2, 1), (601, .invokevirtual 74, 3), (604, .pop, 1), (605, .goto 643, 3), (608, .aload_n 1, 1), (609, .invokevirtual 75, 3)] := by decide +kernel
theorem dL_law_586 : decode cL_law 586 = .ok (.iadd, 1) := dz_at dqL_law_p342e4 0 rfl
theorem dL_law_587 : decode cL_law 587 = .ok (.iaload, 1) := dz_at dqL_law_p342e4 1 rfl
theorem dL_law_588 : decode cL_law 588 = .ok (.invokevirtual 69, 3) := dz_at dqL_law_p342e4 2 rfl
theorem dL_law_591 : decode cL_law 591 = .ok (.pop, 1) := dz_at dqL_law_p342e4 3 rfl
theorem dL_law_592 : decode cL_law 592 = .ok (.goto 656, 3) := dz_at dqL_law_p342e4 4 rfl
theorem dL_law_595 : decode cL_law 595 = .ok (.aload_n 1, 1) := dz_at dqL_law_p342e4 5 rfl
theorem dL_law_596 : decode cL_law 596 = .ok (.invokevirtual 70, 3) := dz_at dqL_law_p342e4 6 rfl
theorem dL_law_599 : decode cL_law 599 = .ok (.pop, 1) := dz_at dqL_law_p342e4 7 rfl
theorem dL_law_600 : decode cL_law 600 = .ok (.aload_n 2, 1) := dz_at dqL_law_p342e4 8 rfl
theorem dL_law_601 : decode cL_law 601 = .ok (.invokevirtual 74, 3) := dz_at dqL_law_p342e4 9 rfl
theorem dL_law_604 : decode cL_law 604 = .ok (.pop, 1) := dz_at dqL_law_p342e4 10 rfl
theorem dL_law_605 : decode cL_law 605 = .ok (.goto 643, 3) := dz_at dqL_law_p342e4 11 rfl
theorem dL_law_608 : decode cL_law 608 = .ok (.aload_n 1, 1) := dz_at dqL_law_p342e4 12 rfl
theorem dL_law_609 : decode cL_law 609 = .ok (.invokevirtual 75, 3) := dz_at dqL_law_p342e4 13 rfl
set_option maxRecDepth 20000 in
theorem dqL_law_p342e5 : dz_rn 612 (cL_law.data.toList.drop 612) [(0, 6), (3, 1), (4, 1), (0, 8)] = some [(612, .aload_n 2, 1), (613, .invokevirtual 78, 3), (616, .if_icmp .eq 632, 3), (619, .iconst 0, 1)] := by decide +kernel
theorem dL_law_612 : decode cL_law 612 = .ok (.aload_n 2, 1) := dz_at dqL_law_p342e5 0 rfl
theorem dL_law_613 : decode cL_law 613 = .ok (.invokevirtual 78, 3) := dz_at dqL_law_p342e5 1 rfl
theorem dL_law_616 : decode cL_law 616 = .ok (.if_icmp .eq 632, 3) := dz_at dqL_law_p342e5 2 rfl
theorem dL_law_619 : decode cL_law 619 = .ok (.iconst 0, 1) := dz_at dqL_law_p342e5 3 rfl
