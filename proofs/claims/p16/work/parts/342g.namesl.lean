set_option maxRecDepth 20000 in
theorem dqL_law_p342g0 : dz_rn 717 (cL_law.data.toList.drop 717) [(0, 3), (0, 9), (0, 11), (0, 10), (0, 33), (2, 0), (0, 42), (0, 4), (0, 3), (0, 14), (0, 11), (0, 10), (0, 33), (3, 4)] = some [(717, .iload_n 3, 1), (718, .iconst 1, 1), (719, .iadd, 1), (720, .iaload, 1), (721, .i2l, 1), (722, .bipush 32, 2), (724, .lshl, 1), (725, .aload_n 0, 1), (726, .iload_n 3, 1), (727, .iconst 2, 1), (728, .iadd, 1), (729, .iaload, 1), (730, .i2l, 1), (731, .ldc2_w 63, 3)] := by decide +kernel
theorem dL_law_717 : decode cL_law 717 = .ok (.iload_n 3, 1) := dz_at dqL_law_p342g0 0 rfl
theorem dL_law_718 : decode cL_law 718 = .ok (.iconst 1, 1) := dz_at dqL_law_p342g0 1 rfl
theorem dL_law_719 : decode cL_law 719 = .ok (.iadd, 1) := dz_at dqL_law_p342g0 2 rfl
theorem dL_law_720 : decode cL_law 720 = .ok (.iaload, 1) := dz_at dqL_law_p342g0 3 rfl
theorem dL_law_721 : decode cL_law 721 = .ok (.i2l, 1) := dz_at dqL_law_p342g0 4 rfl
theorem dL_law_722 : decode cL_law 722 = .ok (.bipush 32, 2) := dz_at dqL_law_p342g0 5 rfl
theorem dL_law_724 : decode cL_law 724 = .ok (.lshl, 1) := dz_at dqL_law_p342g0 6 rfl
theorem dL_law_725 : decode cL_law 725 = .ok (.aload_n 0, 1) := dz_at dqL_law_p342g0 7 rfl
theorem dL_law_726 : decode cL_law 726 = .ok (.iload_n 3, 1) := dz_at dqL_law_p342g0 8 rfl
theorem dL_law_727 : decode cL_law 727 = .ok (.iconst 2, 1) := dz_at dqL_law_p342g0 9 rfl
theorem dL_law_728 : decode cL_law 728 = .ok (.iadd, 1) := dz_at dqL_law_p342g0 10 rfl
theorem dL_law_729 : decode cL_law 729 = .ok (.iaload, 1) := dz_at dqL_law_p342g0 11 rfl
theorem dL_law_730 : decode cL_law 730 = .ok (.i2l, 1) := dz_at dqL_law_p342g0 12 rfl
theorem dL_law_731 : decode cL_law 731 = .ok (.ldc2_w 63, 3) := dz_at dqL_law_p342g0 13 rfl
set_option maxRecDepth 20000 in
theorem dqL_law_p342g1 : dz_rn 734 (cL_law.data.toList.drop 734) [(0, 38), (0, 43), (0, 4), (0, 3), (0, 15), (0, 11), (0, 10), (0, 4), (0, 3), (0, 16), (0, 11), (0, 10), (3, 1), (0, 24)] = some [(734, .land, 1), (735, .lor, 1), (736, .aload_n 0, 1), (737, .iload_n 3, 1), (738, .iconst 3, 1), (739, .iadd, 1), (740, .iaload, 1), (741, .aload_n 0, 1), (742, .iload_n 3, 1), (743, .iconst 4, 1), (744, .iadd, 1), (745, .iaload, 1), (746, .invokevirtual 95, 3), (749, .pop, 1)] := by decide +kernel
theorem dL_law_734 : decode cL_law 734 = .ok (.land, 1) := dz_at dqL_law_p342g1 0 rfl
theorem dL_law_735 : decode cL_law 735 = .ok (.lor, 1) := dz_at dqL_law_p342g1 1 rfl
theorem dL_law_736 : decode cL_law 736 = .ok (.aload_n 0, 1) := dz_at dqL_law_p342g1 2 rfl
theorem dL_law_737 : decode cL_law 737 = .ok (.iload_n 3, 1) := dz_at dqL_law_p342g1 3 rfl
theorem dL_law_738 : decode cL_law 738 = .ok (.iconst 3, 1) := dz_at dqL_law_p342g1 4 rfl
theorem dL_law_739 : decode cL_law 739 = .ok (.iadd, 1) := dz_at dqL_law_p342g1 5 rfl
theorem dL_law_740 : decode cL_law 740 = .ok (.iaload, 1) := dz_at dqL_law_p342g1 6 rfl
theorem dL_law_741 : decode cL_law 741 = .ok (.aload_n 0, 1) := dz_at dqL_law_p342g1 7 rfl
theorem dL_law_742 : decode cL_law 742 = .ok (.iload_n 3, 1) := dz_at dqL_law_p342g1 8 rfl
theorem dL_law_743 : decode cL_law 743 = .ok (.iconst 4, 1) := dz_at dqL_law_p342g1 9 rfl
theorem dL_law_744 : decode cL_law 744 = .ok (.iadd, 1) := dz_at dqL_law_p342g1 10 rfl
theorem dL_law_745 : decode cL_law 745 = .ok (.iaload, 1) := dz_at dqL_law_p342g1 11 rfl
theorem dL_law_746 : decode cL_law 746 = .ok (.invokevirtual 95, 3) := dz_at dqL_law_p342g1 12 rfl
theorem dL_law_749 : decode cL_law 749 = .ok (.pop, 1) := dz_at dqL_law_p342g1 13 rfl
set_option maxRecDepth 20000 in
theorem dqL_law_p342g2 : dz_rn 750 (cL_law.data.toList.drop 750) [(4, 0), (0, 5), (0, 4), (0, 3), (0, 9), (0, 11), (0, 10), (3, 1), (0, 24), (0, 6), (0, 4), (0, 3), (0, 9), (0, 11)] = some [(750, .goto 498, 3), (753, .aload_n 1, 1), (754, .aload_n 0, 1), (755, .iload_n 3, 1), (756, .iconst 1, 1), (757, .iadd, 1), (758, .iaload, 1), (759, .invokevirtual 96, 3), (762, .pop, 1), (763, .aload_n 2, 1), (764, .aload_n 0, 1), (765, .iload_n 3, 1), (766, .iconst 1, 1), (767, .iadd, 1)] := by decide +kernel
theorem dL_law_750 : decode cL_law 750 = .ok (.goto 498, 3) := dz_at dqL_law_p342g2 0 rfl
theorem dL_law_753 : decode cL_law 753 = .ok (.aload_n 1, 1) := dz_at dqL_law_p342g2 1 rfl
theorem dL_law_754 : decode cL_law 754 = .ok (.aload_n 0, 1) := dz_at dqL_law_p342g2 2 rfl
theorem dL_law_755 : decode cL_law 755 = .ok (.iload_n 3, 1) := dz_at dqL_law_p342g2 3 rfl
theorem dL_law_756 : decode cL_law 756 = .ok (.iconst 1, 1) := dz_at dqL_law_p342g2 4 rfl
theorem dL_law_757 : decode cL_law 757 = .ok (.iadd, 1) := dz_at dqL_law_p342g2 5 rfl
theorem dL_law_758 : decode cL_law 758 = .ok (.iaload, 1) := dz_at dqL_law_p342g2 6 rfl
theorem dL_law_759 : decode cL_law 759 = .ok (.invokevirtual 96, 3) := dz_at dqL_law_p342g2 7 rfl
theorem dL_law_762 : decode cL_law 762 = .ok (.pop, 1) := dz_at dqL_law_p342g2 8 rfl
theorem dL_law_763 : decode cL_law 763 = .ok (.aload_n 2, 1) := dz_at dqL_law_p342g2 9 rfl
theorem dL_law_764 : decode cL_law 764 = .ok (.aload_n 0, 1) := dz_at dqL_law_p342g2 10 rfl
theorem dL_law_765 : decode cL_law 765 = .ok (.iload_n 3, 1) := dz_at dqL_law_p342g2 11 rfl
theorem dL_law_766 : decode cL_law 766 = .ok (.iconst 1, 1) := dz_at dqL_law_p342g2 12 rfl
theorem dL_law_767 : decode cL_law 767 = .ok (.iadd, 1) := dz_at dqL_law_p342g2 13 rfl
set_option maxRecDepth 20000 in
theorem dqL_law_p342g3 : dz_rn 768 (cL_law.data.toList.drop 768) [(0, 10), (3, 1), (0, 24), (4, 0), (0, 5), (0, 4), (0, 3), (0, 9), (0, 11), (0, 10), (0, 4), (0, 3), (0, 14), (0, 11)] = some [(768, .iaload, 1), (769, .invokevirtual 99, 3), (772, .pop, 1), (773, .goto 475, 3), (776, .aload_n 1, 1), (777, .aload_n 0, 1), (778, .iload_n 3, 1), (779, .iconst 1, 1), (780, .iadd, 1), (781, .iaload, 1), (782, .aload_n 0, 1), (783, .iload_n 3, 1), (784, .iconst 2, 1), (785, .iadd, 1)] := by decide +kernel
theorem dL_law_768 : decode cL_law 768 = .ok (.iaload, 1) := dz_at dqL_law_p342g3 0 rfl
theorem dL_law_769 : decode cL_law 769 = .ok (.invokevirtual 99, 3) := dz_at dqL_law_p342g3 1 rfl
theorem dL_law_772 : decode cL_law 772 = .ok (.pop, 1) := dz_at dqL_law_p342g3 2 rfl
theorem dL_law_773 : decode cL_law 773 = .ok (.goto 475, 3) := dz_at dqL_law_p342g3 3 rfl
theorem dL_law_776 : decode cL_law 776 = .ok (.aload_n 1, 1) := dz_at dqL_law_p342g3 4 rfl
theorem dL_law_777 : decode cL_law 777 = .ok (.aload_n 0, 1) := dz_at dqL_law_p342g3 5 rfl
theorem dL_law_778 : decode cL_law 778 = .ok (.iload_n 3, 1) := dz_at dqL_law_p342g3 6 rfl
theorem dL_law_779 : decode cL_law 779 = .ok (.iconst 1, 1) := dz_at dqL_law_p342g3 7 rfl
theorem dL_law_780 : decode cL_law 780 = .ok (.iadd, 1) := dz_at dqL_law_p342g3 8 rfl
theorem dL_law_781 : decode cL_law 781 = .ok (.iaload, 1) := dz_at dqL_law_p342g3 9 rfl
theorem dL_law_782 : decode cL_law 782 = .ok (.aload_n 0, 1) := dz_at dqL_law_p342g3 10 rfl
theorem dL_law_783 : decode cL_law 783 = .ok (.iload_n 3, 1) := dz_at dqL_law_p342g3 11 rfl
theorem dL_law_784 : decode cL_law 784 = .ok (.iconst 2, 1) := dz_at dqL_law_p342g3 12 rfl
theorem dL_law_785 : decode cL_law 785 = .ok (.iadd, 1) := dz_at dqL_law_p342g3 13 rfl
set_option maxRecDepth 20000 in
theorem dqL_law_p342g4 : dz_rn 786 (cL_law.data.toList.drop 786) [(0, 10), (0, 4), (0, 3), (0, 15), (0, 11), (0, 10), (3, 1), (0, 24), (0, 6), (0, 4), (0, 3), (0, 9), (0, 11), (0, 10)] = some [(786, .iaload, 1), (787, .aload_n 0, 1), (788, .iload_n 3, 1), (789, .iconst 3, 1), (790, .iadd, 1), (791, .iaload, 1), (792, .invokevirtual 100, 3), (795, .pop, 1), (796, .aload_n 2, 1), (797, .aload_n 0, 1), (798, .iload_n 3, 1), (799, .iconst 1, 1), (800, .iadd, 1), (801, .iaload, 1)] := by decide +kernel
theorem dL_law_786 : decode cL_law 786 = .ok (.iaload, 1) := dz_at dqL_law_p342g4 0 rfl
theorem dL_law_787 : decode cL_law 787 = .ok (.aload_n 0, 1) := dz_at dqL_law_p342g4 1 rfl
theorem dL_law_788 : decode cL_law 788 = .ok (.iload_n 3, 1) := dz_at dqL_law_p342g4 2 rfl
theorem dL_law_789 : decode cL_law 789 = .ok (.iconst 3, 1) := dz_at dqL_law_p342g4 3 rfl
theorem dL_law_790 : decode cL_law 790 = .ok (.iadd, 1) := dz_at dqL_law_p342g4 4 rfl
theorem dL_law_791 : decode cL_law 791 = .ok (.iaload, 1) := dz_at dqL_law_p342g4 5 rfl
theorem dL_law_792 : decode cL_law 792 = .ok (.invokevirtual 100, 3) := dz_at dqL_law_p342g4 6 rfl
theorem dL_law_795 : decode cL_law 795 = .ok (.pop, 1) := dz_at dqL_law_p342g4 7 rfl
theorem dL_law_796 : decode cL_law 796 = .ok (.aload_n 2, 1) := dz_at dqL_law_p342g4 8 rfl
theorem dL_law_797 : decode cL_law 797 = .ok (.aload_n 0, 1) := dz_at dqL_law_p342g4 9 rfl
theorem dL_law_798 : decode cL_law 798 = .ok (.iload_n 3, 1) := dz_at dqL_law_p342g4 10 rfl
theorem dL_law_799 : decode cL_law 799 = .ok (.iconst 1, 1) := dz_at dqL_law_p342g4 11 rfl
theorem dL_law_800 : decode cL_law 800 = .ok (.iadd, 1) := dz_at dqL_law_p342g4 12 rfl
theorem dL_law_801 : decode cL_law 801 = .ok (.iaload, 1) := dz_at dqL_law_p342g4 13 rfl
set_option maxRecDepth 20000 in
theorem dqL_law_p342g5 : dz_rn 802 (cL_law.data.toList.drop 802) [(0, 4), (0, 3), (0, 14), (0, 11)] = some [(802, .aload_n 0, 1), (803, .iload_n 3, 1), (804, .iconst 2, 1), (805, .iadd, 1)] := by decide +kernel
theorem dL_law_802 : decode cL_law 802 = .ok (.aload_n 0, 1) := dz_at dqL_law_p342g5 0 rfl
theorem dL_law_803 : decode cL_law 803 = .ok (.iload_n 3, 1) := dz_at dqL_law_p342g5 1 rfl
theorem dL_law_804 : decode cL_law 804 = .ok (.iconst 2, 1) := dz_at dqL_law_p342g5 2 rfl
theorem dL_law_805 : decode cL_law 805 = .ok (.iadd, 1) := dz_at dqL_law_p342g5 3 rfl
