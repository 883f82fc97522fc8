set_option maxRecDepth 20000 in
theorem dqL_law_p342f0 : dz_rn 620 (cL_law.data.toList.drop 620) [(0, 12), (0, 5), (3, 1), (0, 24), (0, 6), (3, 1), (0, 24), (4, 0), (0, 5), (0, 4), (0, 3), (0, 9), (0, 11), (0, 10)] = some [(620, .ireturn, 1), (621, .aload_n 1, 1), (622, .invokevirtual 79, 3), (625, .pop, 1), (626, .aload_n 2, 1), (627, .invokevirtual 82, 3), (630, .pop, 1), (631, .goto 617, 3), (634, .aload_n 1, 1), (635, .aload_n 0, 1), (636, .iload_n 3, 1), (637, .iconst 1, 1), (638, .iadd, 1), (639, .iaload, 1)] := by decide +kernel
theorem dL_law_620 : decode cL_law 620 = .ok (.ireturn, 1) := dz_at dqL_law_p342f0 0 rfl
theorem dL_law_621 : decode cL_law 621 = .ok (.aload_n 1, 1) := dz_at dqL_law_p342f0 1 rfl
theorem dL_law_622 : decode cL_law 622 = .ok (.invokevirtual 79, 3) := dz_at dqL_law_p342f0 2 rfl
theorem dL_law_625 : decode cL_law 625 = .ok (.pop, 1) := dz_at dqL_law_p342f0 3 rfl
theorem dL_law_626 : decode cL_law 626 = .ok (.aload_n 2, 1) := dz_at dqL_law_p342f0 4 rfl
theorem dL_law_627 : decode cL_law 627 = .ok (.invokevirtual 82, 3) := dz_at dqL_law_p342f0 5 rfl
theorem dL_law_630 : decode cL_law 630 = .ok (.pop, 1) := dz_at dqL_law_p342f0 6 rfl
theorem dL_law_631 : decode cL_law 631 = .ok (.goto 617, 3) := dz_at dqL_law_p342f0 7 rfl
theorem dL_law_634 : decode cL_law 634 = .ok (.aload_n 1, 1) := dz_at dqL_law_p342f0 8 rfl
theorem dL_law_635 : decode cL_law 635 = .ok (.aload_n 0, 1) := dz_at dqL_law_p342f0 9 rfl
theorem dL_law_636 : decode cL_law 636 = .ok (.iload_n 3, 1) := dz_at dqL_law_p342f0 10 rfl
theorem dL_law_637 : decode cL_law 637 = .ok (.iconst 1, 1) := dz_at dqL_law_p342f0 11 rfl
theorem dL_law_638 : decode cL_law 638 = .ok (.iadd, 1) := dz_at dqL_law_p342f0 12 rfl
theorem dL_law_639 : decode cL_law 639 = .ok (.iaload, 1) := dz_at dqL_law_p342f0 13 rfl
set_option maxRecDepth 20000 in
theorem dqL_law_p342f1 : dz_rn 640 (cL_law.data.toList.drop 640) [(0, 4), (0, 3), (0, 14), (0, 11), (0, 10), (3, 1), (0, 24), (0, 6), (0, 4), (0, 3), (0, 9), (0, 11), (0, 10), (0, 4)] = some [(640, .aload_n 0, 1), (641, .iload_n 3, 1), (642, .iconst 2, 1), (643, .iadd, 1), (644, .iaload, 1), (645, .invokevirtual 83, 3), (648, .pop, 1), (649, .aload_n 2, 1), (650, .aload_n 0, 1), (651, .iload_n 3, 1), (652, .iconst 1, 1), (653, .iadd, 1), (654, .iaload, 1), (655, .aload_n 0, 1)] := by decide +kernel
theorem dL_law_640 : decode cL_law 640 = .ok (.aload_n 0, 1) := dz_at dqL_law_p342f1 0 rfl
theorem dL_law_641 : decode cL_law 641 = .ok (.iload_n 3, 1) := dz_at dqL_law_p342f1 1 rfl
theorem dL_law_642 : decode cL_law 642 = .ok (.iconst 2, 1) := dz_at dqL_law_p342f1 2 rfl
theorem dL_law_643 : decode cL_law 643 = .ok (.iadd, 1) := dz_at dqL_law_p342f1 3 rfl
theorem dL_law_644 : decode cL_law 644 = .ok (.iaload, 1) := dz_at dqL_law_p342f1 4 rfl
theorem dL_law_645 : decode cL_law 645 = .ok (.invokevirtual 83, 3) := dz_at dqL_law_p342f1 5 rfl
theorem dL_law_648 : decode cL_law 648 = .ok (.pop, 1) := dz_at dqL_law_p342f1 6 rfl
theorem dL_law_649 : decode cL_law 649 = .ok (.aload_n 2, 1) := dz_at dqL_law_p342f1 7 rfl
theorem dL_law_650 : decode cL_law 650 = .ok (.aload_n 0, 1) := dz_at dqL_law_p342f1 8 rfl
theorem dL_law_651 : decode cL_law 651 = .ok (.iload_n 3, 1) := dz_at dqL_law_p342f1 9 rfl
theorem dL_law_652 : decode cL_law 652 = .ok (.iconst 1, 1) := dz_at dqL_law_p342f1 10 rfl
theorem dL_law_653 : decode cL_law 653 = .ok (.iadd, 1) := dz_at dqL_law_p342f1 11 rfl
theorem dL_law_654 : decode cL_law 654 = .ok (.iaload, 1) := dz_at dqL_law_p342f1 12 rfl
theorem dL_law_655 : decode cL_law 655 = .ok (.aload_n 0, 1) := dz_at dqL_law_p342f1 13 rfl
set_option maxRecDepth 20000 in
theorem dqL_law_p342f2 : dz_rn 656 (cL_law.data.toList.drop 656) [(0, 3), (0, 14), (0, 11), (0, 10), (3, 1), (0, 24), (4, 0), (0, 5), (3, 1), (0, 24), (0, 6), (3, 1), (0, 24), (4, 0)] = some [(656, .iload_n 3, 1), (657, .iconst 2, 1), (658, .iadd, 1), (659, .iaload, 1), (660, .invokevirtual 86, 3), (663, .pop, 1), (664, .goto 584, 3), (667, .aload_n 1, 1), (668, .invokevirtual 87, 3), (671, .pop, 1), (672, .aload_n 2, 1), (673, .invokevirtual 90, 3), (676, .pop, 1), (677, .goto 571, 3)] := by decide +kernel
theorem dL_law_656 : decode cL_law 656 = .ok (.iload_n 3, 1) := dz_at dqL_law_p342f2 0 rfl
theorem dL_law_657 : decode cL_law 657 = .ok (.iconst 2, 1) := dz_at dqL_law_p342f2 1 rfl
theorem dL_law_658 : decode cL_law 658 = .ok (.iadd, 1) := dz_at dqL_law_p342f2 2 rfl
theorem dL_law_659 : decode cL_law 659 = .ok (.iaload, 1) := dz_at dqL_law_p342f2 3 rfl
theorem dL_law_660 : decode cL_law 660 = .ok (.invokevirtual 86, 3) := dz_at dqL_law_p342f2 4 rfl
theorem dL_law_663 : decode cL_law 663 = .ok (.pop, 1) := dz_at dqL_law_p342f2 5 rfl
theorem dL_law_664 : decode cL_law 664 = .ok (.goto 584, 3) := dz_at dqL_law_p342f2 6 rfl
theorem dL_law_667 : decode cL_law 667 = .ok (.aload_n 1, 1) := dz_at dqL_law_p342f2 7 rfl
theorem dL_law_668 : decode cL_law 668 = .ok (.invokevirtual 87, 3) := dz_at dqL_law_p342f2 8 rfl
theorem dL_law_671 : decode cL_law 671 = .ok (.pop, 1) := dz_at dqL_law_p342f2 9 rfl
theorem dL_law_672 : decode cL_law 672 = .ok (.aload_n 2, 1) := dz_at dqL_law_p342f2 10 rfl
theorem dL_law_673 : decode cL_law 673 = .ok (.invokevirtual 90, 3) := dz_at dqL_law_p342f2 11 rfl
theorem dL_law_676 : decode cL_law 676 = .ok (.pop, 1) := dz_at dqL_law_p342f2 12 rfl
theorem dL_law_677 : decode cL_law 677 = .ok (.goto 571, 3) := dz_at dqL_law_p342f2 13 rfl
set_option maxRecDepth 20000 in
theorem dqL_law_p342f3 : dz_rn 680 (cL_law.data.toList.drop 680) [(0, 5), (0, 4), (0, 3), (0, 9), (0, 11), (0, 10), (0, 33), (2, 0), (0, 42), (0, 4), (0, 3), (0, 14), (0, 11), (0, 10)] = some [(680, .aload_n 1, 1), (681, .aload_n 0, 1), (682, .iload_n 3, 1), (683, .iconst 1, 1), (684, .iadd, 1), (685, .iaload, 1), (686, .i2l, 1), (687, .bipush 32, 2), (689, .lshl, 1), (690, .aload_n 0, 1), (691, .iload_n 3, 1), (692, .iconst 2, 1), (693, .iadd, 1), (694, .iaload, 1)] := by decide +kernel
theorem dL_law_680 : decode cL_law 680 = .ok (.aload_n 1, 1) := dz_at dqL_law_p342f3 0 rfl
theorem dL_law_681 : decode cL_law 681 = .ok (.aload_n 0, 1) := dz_at dqL_law_p342f3 1 rfl
theorem dL_law_682 : decode cL_law 682 = .ok (.iload_n 3, 1) := dz_at dqL_law_p342f3 2 rfl
theorem dL_law_683 : decode cL_law 683 = .ok (.iconst 1, 1) := dz_at dqL_law_p342f3 3 rfl
theorem dL_law_684 : decode cL_law 684 = .ok (.iadd, 1) := dz_at dqL_law_p342f3 4 rfl
theorem dL_law_685 : decode cL_law 685 = .ok (.iaload, 1) := dz_at dqL_law_p342f3 5 rfl
theorem dL_law_686 : decode cL_law 686 = .ok (.i2l, 1) := dz_at dqL_law_p342f3 6 rfl
theorem dL_law_687 : decode cL_law 687 = .ok (.bipush 32, 2) := dz_at dqL_law_p342f3 7 rfl
theorem dL_law_689 : decode cL_law 689 = .ok (.lshl, 1) := dz_at dqL_law_p342f3 8 rfl
theorem dL_law_690 : decode cL_law 690 = .ok (.aload_n 0, 1) := dz_at dqL_law_p342f3 9 rfl
theorem dL_law_691 : decode cL_law 691 = .ok (.iload_n 3, 1) := dz_at dqL_law_p342f3 10 rfl
theorem dL_law_692 : decode cL_law 692 = .ok (.iconst 2, 1) := dz_at dqL_law_p342f3 11 rfl
theorem dL_law_693 : decode cL_law 693 = .ok (.iadd, 1) := dz_at dqL_law_p342f3 12 rfl
theorem dL_law_694 : decode cL_law 694 = .ok (.iaload, 1) := dz_at dqL_law_p342f3 13 rfl
set_option maxRecDepth 20000 in
theorem dqL_law_p342f4 : dz_rn 695 (cL_law.data.toList.drop 695) [(0, 33), (3, 4), (0, 38), (0, 43), (0, 4), (0, 3), (0, 15), (0, 11), (0, 10), (0, 4), (0, 3), (0, 16), (0, 11), (0, 10)] = some [(695, .i2l, 1), (696, .ldc2_w 63, 3), (699, .land, 1), (700, .lor, 1), (701, .aload_n 0, 1), (702, .iload_n 3, 1), (703, .iconst 3, 1), (704, .iadd, 1), (705, .iaload, 1), (706, .aload_n 0, 1), (707, .iload_n 3, 1), (708, .iconst 4, 1), (709, .iadd, 1), (710, .iaload, 1)] := by decide +kernel
theorem dL_law_695 : decode cL_law 695 = .ok (.i2l, 1) := dz_at dqL_law_p342f4 0 rfl
theorem dL_law_696 : decode cL_law 696 = .ok (.ldc2_w 63, 3) := dz_at dqL_law_p342f4 1 rfl
theorem dL_law_699 : decode cL_law 699 = .ok (.land, 1) := dz_at dqL_law_p342f4 2 rfl
theorem dL_law_700 : decode cL_law 700 = .ok (.lor, 1) := dz_at dqL_law_p342f4 3 rfl
theorem dL_law_701 : decode cL_law 701 = .ok (.aload_n 0, 1) := dz_at dqL_law_p342f4 4 rfl
theorem dL_law_702 : decode cL_law 702 = .ok (.iload_n 3, 1) := dz_at dqL_law_p342f4 5 rfl
theorem dL_law_703 : decode cL_law 703 = .ok (.iconst 3, 1) := dz_at dqL_law_p342f4 6 rfl
theorem dL_law_704 : decode cL_law 704 = .ok (.iadd, 1) := dz_at dqL_law_p342f4 7 rfl
theorem dL_law_705 : decode cL_law 705 = .ok (.iaload, 1) := dz_at dqL_law_p342f4 8 rfl
theorem dL_law_706 : decode cL_law 706 = .ok (.aload_n 0, 1) := dz_at dqL_law_p342f4 9 rfl
theorem dL_law_707 : decode cL_law 707 = .ok (.iload_n 3, 1) := dz_at dqL_law_p342f4 10 rfl
theorem dL_law_708 : decode cL_law 708 = .ok (.iconst 4, 1) := dz_at dqL_law_p342f4 11 rfl
theorem dL_law_709 : decode cL_law 709 = .ok (.iadd, 1) := dz_at dqL_law_p342f4 12 rfl
theorem dL_law_710 : decode cL_law 710 = .ok (.iaload, 1) := dz_at dqL_law_p342f4 13 rfl
set_option maxRecDepth 20000 in
theorem dqL_law_p342f5 : dz_rn 711 (cL_law.data.toList.drop 711) [(3, 1), (0, 24), (0, 6), (0, 4)] = some [(711, .invokevirtual 91, 3), (714, .pop, 1), (715, .aload_n 2, 1), (716, .aload_n 0, 1)] := by decide +kernel
theorem dL_law_711 : decode cL_law 711 = .ok (.invokevirtual 91, 3) := dz_at dqL_law_p342f5 0 rfl
theorem dL_law_714 : decode cL_law 714 = .ok (.pop, 1) := dz_at dqL_law_p342f5 1 rfl
theorem dL_law_715 : decode cL_law 715 = .ok (.aload_n 2, 1) := dz_at dqL_law_p342f5 2 rfl
theorem dL_law_716 : decode cL_law 716 = .ok (.aload_n 0, 1) := dz_at dqL_law_p342f5 3 rfl
