set_option maxRecDepth 20000 in
theorem dqL_law_p342h0 : dz_rn 806 (cL_law.data.toList.drop 806) [(0, 10), (0, 4), (0, 3), (0, 15), (0, 11), (0, 10), (3, 1), (0, 24), (4, 0), (0, 5), (0, 4), (0, 3), (0, 9), (0, 11)] = some [(806, .iaload, 1), (807, .aload_n 0, 1), (808, .iload_n 3, 1), (809, .iconst 3, 1), (810, .iadd, 1), (811, .iaload, 1), (812, .invokevirtual 104, 3), (815, .pop, 1), (816, .goto 432, 3), (819, .aload_n 1, 1), (820, .aload_n 0, 1), (821, .iload_n 3, 1), (822, .iconst 1, 1), (823, .iadd, 1)] := by decide +kernel
theorem dL_law_806 : decode cL_law 806 = .ok (.iaload, 1) := dz_at dqL_law_p342h0 0 rfl
theorem dL_law_807 : decode cL_law 807 = .ok (.aload_n 0, 1) := dz_at dqL_law_p342h0 1 rfl
theorem dL_law_808 : decode cL_law 808 = .ok (.iload_n 3, 1) := dz_at dqL_law_p342h0 2 rfl
theorem dL_law_809 : decode cL_law 809 = .ok (.iconst 3, 1) := dz_at dqL_law_p342h0 3 rfl
theorem dL_law_810 : decode cL_law 810 = .ok (.iadd, 1) := dz_at dqL_law_p342h0 4 rfl
theorem dL_law_811 : decode cL_law 811 = .ok (.iaload, 1) := dz_at dqL_law_p342h0 5 rfl
theorem dL_law_812 : decode cL_law 812 = .ok (.invokevirtual 104, 3) := dz_at dqL_law_p342h0 6 rfl
theorem dL_law_815 : decode cL_law 815 = .ok (.pop, 1) := dz_at dqL_law_p342h0 7 rfl
theorem dL_law_816 : decode cL_law 816 = .ok (.goto 432, 3) := dz_at dqL_law_p342h0 8 rfl
theorem dL_law_819 : decode cL_law 819 = .ok (.aload_n 1, 1) := dz_at dqL_law_p342h0 9 rfl
theorem dL_law_820 : decode cL_law 820 = .ok (.aload_n 0, 1) := dz_at dqL_law_p342h0 10 rfl
theorem dL_law_821 : decode cL_law 821 = .ok (.iload_n 3, 1) := dz_at dqL_law_p342h0 11 rfl
theorem dL_law_822 : decode cL_law 822 = .ok (.iconst 1, 1) := dz_at dqL_law_p342h0 12 rfl
theorem dL_law_823 : decode cL_law 823 = .ok (.iadd, 1) := dz_at dqL_law_p342h0 13 rfl
set_option maxRecDepth 20000 in
theorem dqL_law_p342h1 : dz_rn 824 (cL_law.data.toList.drop 824) [(0, 10), (0, 4), (0, 3), (0, 14), (0, 11), (0, 10), (0, 4), (0, 3), (0, 15), (0, 11), (0, 10), (3, 1), (0, 24), (0, 6)] = some [(824, .iaload, 1), (825, .aload_n 0, 1), (826, .iload_n 3, 1), (827, .iconst 2, 1), (828, .iadd, 1), (829, .iaload, 1), (830, .aload_n 0, 1), (831, .iload_n 3, 1), (832, .iconst 3, 1), (833, .iadd, 1), (834, .iaload, 1), (835, .invokevirtual 105, 3), (838, .pop, 1), (839, .aload_n 2, 1)] := by decide +kernel
theorem dL_law_824 : decode cL_law 824 = .ok (.iaload, 1) := dz_at dqL_law_p342h1 0 rfl
theorem dL_law_825 : decode cL_law 825 = .ok (.aload_n 0, 1) := dz_at dqL_law_p342h1 1 rfl
theorem dL_law_826 : decode cL_law 826 = .ok (.iload_n 3, 1) := dz_at dqL_law_p342h1 2 rfl
theorem dL_law_827 : decode cL_law 827 = .ok (.iconst 2, 1) := dz_at dqL_law_p342h1 3 rfl
theorem dL_law_828 : decode cL_law 828 = .ok (.iadd, 1) := dz_at dqL_law_p342h1 4 rfl
theorem dL_law_829 : decode cL_law 829 = .ok (.iaload, 1) := dz_at dqL_law_p342h1 5 rfl
theorem dL_law_830 : decode cL_law 830 = .ok (.aload_n 0, 1) := dz_at dqL_law_p342h1 6 rfl
theorem dL_law_831 : decode cL_law 831 = .ok (.iload_n 3, 1) := dz_at dqL_law_p342h1 7 rfl
theorem dL_law_832 : decode cL_law 832 = .ok (.iconst 3, 1) := dz_at dqL_law_p342h1 8 rfl
theorem dL_law_833 : decode cL_law 833 = .ok (.iadd, 1) := dz_at dqL_law_p342h1 9 rfl
theorem dL_law_834 : decode cL_law 834 = .ok (.iaload, 1) := dz_at dqL_law_p342h1 10 rfl
theorem dL_law_835 : decode cL_law 835 = .ok (.invokevirtual 105, 3) := dz_at dqL_law_p342h1 11 rfl
theorem dL_law_838 : decode cL_law 838 = .ok (.pop, 1) := dz_at dqL_law_p342h1 12 rfl
theorem dL_law_839 : decode cL_law 839 = .ok (.aload_n 2, 1) := dz_at dqL_law_p342h1 13 rfl
set_option maxRecDepth 20000 in
theorem dqL_law_p342h2 : dz_rn 840 (cL_law.data.toList.drop 840) [(0, 4), (0, 3), (0, 9), (0, 11), (0, 10), (0, 4), (0, 3), (0, 14), (0, 11), (0, 10), (0, 4), (0, 3), (0, 15), (0, 11)] = some [(840, .aload_n 0, 1), (841, .iload_n 3, 1), (842, .iconst 1, 1), (843, .iadd, 1), (844, .iaload, 1), (845, .aload_n 0, 1), (846, .iload_n 3, 1), (847, .iconst 2, 1), (848, .iadd, 1), (849, .iaload, 1), (850, .aload_n 0, 1), (851, .iload_n 3, 1), (852, .iconst 3, 1), (853, .iadd, 1)] := by decide +kernel
theorem dL_law_840 : decode cL_law 840 = .ok (.aload_n 0, 1) := dz_at dqL_law_p342h2 0 rfl
theorem dL_law_841 : decode cL_law 841 = .ok (.iload_n 3, 1) := dz_at dqL_law_p342h2 1 rfl
theorem dL_law_842 : decode cL_law 842 = .ok (.iconst 1, 1) := dz_at dqL_law_p342h2 2 rfl
theorem dL_law_843 : decode cL_law 843 = .ok (.iadd, 1) := dz_at dqL_law_p342h2 3 rfl
theorem dL_law_844 : decode cL_law 844 = .ok (.iaload, 1) := dz_at dqL_law_p342h2 4 rfl
theorem dL_law_845 : decode cL_law 845 = .ok (.aload_n 0, 1) := dz_at dqL_law_p342h2 5 rfl
theorem dL_law_846 : decode cL_law 846 = .ok (.iload_n 3, 1) := dz_at dqL_law_p342h2 6 rfl
theorem dL_law_847 : decode cL_law 847 = .ok (.iconst 2, 1) := dz_at dqL_law_p342h2 7 rfl
theorem dL_law_848 : decode cL_law 848 = .ok (.iadd, 1) := dz_at dqL_law_p342h2 8 rfl
theorem dL_law_849 : decode cL_law 849 = .ok (.iaload, 1) := dz_at dqL_law_p342h2 9 rfl
theorem dL_law_850 : decode cL_law 850 = .ok (.aload_n 0, 1) := dz_at dqL_law_p342h2 10 rfl
theorem dL_law_851 : decode cL_law 851 = .ok (.iload_n 3, 1) := dz_at dqL_law_p342h2 11 rfl
theorem dL_law_852 : decode cL_law 852 = .ok (.iconst 3, 1) := dz_at dqL_law_p342h2 12 rfl
theorem dL_law_853 : decode cL_law 853 = .ok (.iadd, 1) := dz_at dqL_law_p342h2 13 rfl
set_option maxRecDepth 20000 in
theorem dqL_law_p342h3 : dz_rn 854 (cL_law.data.toList.drop 854) [(0, 10), (3, 1), (0, 24), (4, 0), (0, 5), (0, 4), (0, 3), (0, 9), (0, 11), (0, 10), (0, 4), (0, 3), (0, 14), (0, 11)] = some [(854, .iaload, 1), (855, .invokevirtual 108, 3), (858, .pop, 1), (859, .goto 389, 3), (862, .aload_n 1, 1), (863, .aload_n 0, 1), (864, .iload_n 3, 1), (865, .iconst 1, 1), (866, .iadd, 1), (867, .iaload, 1), (868, .aload_n 0, 1), (869, .iload_n 3, 1), (870, .iconst 2, 1), (871, .iadd, 1)] := by decide +kernel
theorem dL_law_854 : decode cL_law 854 = .ok (.iaload, 1) := dz_at dqL_law_p342h3 0 rfl
theorem dL_law_855 : decode cL_law 855 = .ok (.invokevirtual 108, 3) := dz_at dqL_law_p342h3 1 rfl
theorem dL_law_858 : decode cL_law 858 = .ok (.pop, 1) := dz_at dqL_law_p342h3 2 rfl
theorem dL_law_859 : decode cL_law 859 = .ok (.goto 389, 3) := dz_at dqL_law_p342h3 3 rfl
theorem dL_law_862 : decode cL_law 862 = .ok (.aload_n 1, 1) := dz_at dqL_law_p342h3 4 rfl
theorem dL_law_863 : decode cL_law 863 = .ok (.aload_n 0, 1) := dz_at dqL_law_p342h3 5 rfl
theorem dL_law_864 : decode cL_law 864 = .ok (.iload_n 3, 1) := dz_at dqL_law_p342h3 6 rfl
theorem dL_law_865 : decode cL_law 865 = .ok (.iconst 1, 1) := dz_at dqL_law_p342h3 7 rfl
theorem dL_law_866 : decode cL_law 866 = .ok (.iadd, 1) := dz_at dqL_law_p342h3 8 rfl
theorem dL_law_867 : decode cL_law 867 = .ok (.iaload, 1) := dz_at dqL_law_p342h3 9 rfl
theorem dL_law_868 : decode cL_law 868 = .ok (.aload_n 0, 1) := dz_at dqL_law_p342h3 10 rfl
theorem dL_law_869 : decode cL_law 869 = .ok (.iload_n 3, 1) := dz_at dqL_law_p342h3 11 rfl
theorem dL_law_870 : decode cL_law 870 = .ok (.iconst 2, 1) := dz_at dqL_law_p342h3 12 rfl
theorem dL_law_871 : decode cL_law 871 = .ok (.iadd, 1) := dz_at dqL_law_p342h3 13 rfl
set_option maxRecDepth 20000 in
theorem dqL_law_p342h4 : dz_rn 872 (cL_law.data.toList.drop 872) [(0, 10), (3, 1), (0, 24), (0, 6), (0, 4), (0, 3), (0, 9), (0, 11), (0, 10), (0, 4), (0, 3), (0, 14), (0, 11), (0, 10)] = some [(872, .iaload, 1), (873, .invokevirtual 109, 3), (876, .pop, 1), (877, .aload_n 2, 1), (878, .aload_n 0, 1), (879, .iload_n 3, 1), (880, .iconst 1, 1), (881, .iadd, 1), (882, .iaload, 1), (883, .aload_n 0, 1), (884, .iload_n 3, 1), (885, .iconst 2, 1), (886, .iadd, 1), (887, .iaload, 1)] := by decide +kernel
theorem dL_law_872 : decode cL_law 872 = .ok (.iaload, 1) := dz_at dqL_law_p342h4 0 rfl
theorem dL_law_873 : decode cL_law 873 = .ok (.invokevirtual 109, 3) := dz_at dqL_law_p342h4 1 rfl
theorem dL_law_876 : decode cL_law 876 = .ok (.pop, 1) := dz_at dqL_law_p342h4 2 rfl
theorem dL_law_877 : decode cL_law 877 = .ok (.aload_n 2, 1) := dz_at dqL_law_p342h4 3 rfl
theorem dL_law_878 : decode cL_law 878 = .ok (.aload_n 0, 1) := dz_at dqL_law_p342h4 4 rfl
theorem dL_law_879 : decode cL_law 879 = .ok (.iload_n 3, 1) := dz_at dqL_law_p342h4 5 rfl
theorem dL_law_880 : decode cL_law 880 = .ok (.iconst 1, 1) := dz_at dqL_law_p342h4 6 rfl
theorem dL_law_881 : decode cL_law 881 = .ok (.iadd, 1) := dz_at dqL_law_p342h4 7 rfl
theorem dL_law_882 : decode cL_law 882 = .ok (.iaload, 1) := dz_at dqL_law_p342h4 8 rfl
theorem dL_law_883 : decode cL_law 883 = .ok (.aload_n 0, 1) := dz_at dqL_law_p342h4 9 rfl
theorem dL_law_884 : decode cL_law 884 = .ok (.iload_n 3, 1) := dz_at dqL_law_p342h4 10 rfl
theorem dL_law_885 : decode cL_law 885 = .ok (.iconst 2, 1) := dz_at dqL_law_p342h4 11 rfl
theorem dL_law_886 : decode cL_law 886 = .ok (.iadd, 1) := dz_at dqL_law_p342h4 12 rfl
theorem dL_law_887 : decode cL_law 887 = .ok (.iaload, 1) := dz_at dqL_law_p342h4 13 rfl
set_option maxRecDepth 20000 in
theorem dqL_law_p342h5 : dz_rn 888 (cL_law.data.toList.drop 888) [(3, 1), (0, 24), (4, 0), (0, 5)] = some [(888, .invokevirtual 112, 3), (891, .pop, 1), (892, .goto 356, 3), (895, .aload_n 1, 1)] := by decide +kernel
theorem dL_law_888 : decode cL_law 888 = .ok (.invokevirtual 112, 3) := dz_at dqL_law_p342h5 0 rfl
theorem dL_law_891 : decode cL_law 891 = .ok (.pop, 1) := dz_at dqL_law_p342h5 1 rfl
theorem dL_law_892 : decode cL_law 892 = .ok (.goto 356, 3) := dz_at dqL_law_p342h5 2 rfl
theorem dL_law_895 : decode cL_law 895 = .ok (.aload_n 1, 1) := dz_at dqL_law_p342h5 3 rfl
