set_option maxRecDepth 20000 in
theorem dqL_law_p342i0 : dz_rn 896 (cL_law.data.toList.drop 896) [(0, 4), (0, 3), (0, 9), (0, 11), (0, 10), (0, 4), (0, 3), (0, 14), (0, 11), (0, 10), (3, 1), (0, 24), (0, 6), (0, 4)] = some [(896, .aload_n 0, 1), (897, .iload_n 3, 1), (898, .iconst 1, 1), (899, .iadd, 1), (900, .iaload, 1), (901, .aload_n 0, 1), (902, .iload_n 3, 1), (903, .iconst 2, 1), (904, .iadd, 1), (905, .iaload, 1), (906, .invokevirtual 113, 3), (909, .pop, 1), (910, .aload_n 2, 1), (911, .aload_n 0, 1)] := by decide +kernel
theorem dL_law_896 : decode cL_law 896 = .ok (.aload_n 0, 1) := dz_at dqL_law_p342i0 0 rfl
theorem dL_law_897 : decode cL_law 897 = .ok (.iload_n 3, 1) := dz_at dqL_law_p342i0 1 rfl
theorem dL_law_898 : decode cL_law 898 = .ok (.iconst 1, 1) := dz_at dqL_law_p342i0 2 rfl
theorem dL_law_899 : decode cL_law 899 = .ok (.iadd, 1) := dz_at dqL_law_p342i0 3 rfl
theorem dL_law_900 : decode cL_law 900 = .ok (.iaload, 1) := dz_at dqL_law_p342i0 4 rfl
theorem dL_law_901 : decode cL_law 901 = .ok (.aload_n 0, 1) := dz_at dqL_law_p342i0 5 rfl
theorem dL_law_902 : decode cL_law 902 = .ok (.iload_n 3, 1) := dz_at dqL_law_p342i0 6 rfl
theorem dL_law_903 : decode cL_law 903 = .ok (.iconst 2, 1) := dz_at dqL_law_p342i0 7 rfl
theorem dL_law_904 : decode cL_law 904 = .ok (.iadd, 1) := dz_at dqL_law_p342i0 8 rfl
theorem dL_law_905 : decode cL_law 905 = .ok (.iaload, 1) := dz_at dqL_law_p342i0 9 rfl
theorem dL_law_906 : decode cL_law 906 = .ok (.invokevirtual 113, 3) := dz_at dqL_law_p342i0 10 rfl
theorem dL_law_909 : decode cL_law 909 = .ok (.pop, 1) := dz_at dqL_law_p342i0 11 rfl
theorem dL_law_910 : decode cL_law 910 = .ok (.aload_n 2, 1) := dz_at dqL_law_p342i0 12 rfl
theorem dL_law_911 : decode cL_law 911 = .ok (.aload_n 0, 1) := dz_at dqL_law_p342i0 13 rfl
set_option maxRecDepth 20000 in
theorem dqL_law_p342i1 : dz_rn 912 (cL_law.data.toList.drop 912) [(0, 3), (0, 9), (0, 11), (0, 10), (0, 4), (0, 3), (0, 14), (0, 11), (0, 10), (3, 1), (0, 24), (4, 0), (0, 5), (0, 4)] = some [(912, .iload_n 3, 1), (913, .iconst 1, 1), (914, .iadd, 1), (915, .iaload, 1), (916, .aload_n 0, 1), (917, .iload_n 3, 1), (918, .iconst 2, 1), (919, .iadd, 1), (920, .iaload, 1), (921, .invokevirtual 116, 3), (924, .pop, 1), (925, .goto 323, 3), (928, .aload_n 1, 1), (929, .aload_n 0, 1)] := by decide +kernel
theorem dL_law_912 : decode cL_law 912 = .ok (.iload_n 3, 1) := dz_at dqL_law_p342i1 0 rfl
theorem dL_law_913 : decode cL_law 913 = .ok (.iconst 1, 1) := dz_at dqL_law_p342i1 1 rfl
theorem dL_law_914 : decode cL_law 914 = .ok (.iadd, 1) := dz_at dqL_law_p342i1 2 rfl
theorem dL_law_915 : decode cL_law 915 = .ok (.iaload, 1) := dz_at dqL_law_p342i1 3 rfl
theorem dL_law_916 : decode cL_law 916 = .ok (.aload_n 0, 1) := dz_at dqL_law_p342i1 4 rfl
theorem dL_law_917 : decode cL_law 917 = .ok (.iload_n 3, 1) := dz_at dqL_law_p342i1 5 rfl
theorem dL_law_918 : decode cL_law 918 = .ok (.iconst 2, 1) := dz_at dqL_law_p342i1 6 rfl
theorem dL_law_919 : decode cL_law 919 = .ok (.iadd, 1) := dz_at dqL_law_p342i1 7 rfl
theorem dL_law_920 : decode cL_law 920 = .ok (.iaload, 1) := dz_at dqL_law_p342i1 8 rfl
theorem dL_law_921 : decode cL_law 921 = .ok (.invokevirtual 116, 3) := dz_at dqL_law_p342i1 9 rfl
theorem dL_law_924 : decode cL_law 924 = .ok (.pop, 1) := dz_at dqL_law_p342i1 10 rfl
theorem dL_law_925 : decode cL_law 925 = .ok (.goto 323, 3) := dz_at dqL_law_p342i1 11 rfl
theorem dL_law_928 : decode cL_law 928 = .ok (.aload_n 1, 1) := dz_at dqL_law_p342i1 12 rfl
theorem dL_law_929 : decode cL_law 929 = .ok (.aload_n 0, 1) := dz_at dqL_law_p342i1 13 rfl
set_option maxRecDepth 20000 in
theorem dqL_law_p342i2 : dz_rn 930 (cL_law.data.toList.drop 930) [(0, 3), (0, 9), (0, 11), (0, 10), (0, 4), (0, 3), (0, 14), (0, 11), (0, 10), (3, 1), (0, 24), (0, 6), (0, 4), (0, 3)] = some [(930, .iload_n 3, 1), (931, .iconst 1, 1), (932, .iadd, 1), (933, .iaload, 1), (934, .aload_n 0, 1), (935, .iload_n 3, 1), (936, .iconst 2, 1), (937, .iadd, 1), (938, .iaload, 1), (939, .invokevirtual 117, 3), (942, .pop, 1), (943, .aload_n 2, 1), (944, .aload_n 0, 1), (945, .iload_n 3, 1)] := by decide +kernel
theorem dL_law_930 : decode cL_law 930 = .ok (.iload_n 3, 1) := dz_at dqL_law_p342i2 0 rfl
theorem dL_law_931 : decode cL_law 931 = .ok (.iconst 1, 1) := dz_at dqL_law_p342i2 1 rfl
theorem dL_law_932 : decode cL_law 932 = .ok (.iadd, 1) := dz_at dqL_law_p342i2 2 rfl
theorem dL_law_933 : decode cL_law 933 = .ok (.iaload, 1) := dz_at dqL_law_p342i2 3 rfl
theorem dL_law_934 : decode cL_law 934 = .ok (.aload_n 0, 1) := dz_at dqL_law_p342i2 4 rfl
theorem dL_law_935 : decode cL_law 935 = .ok (.iload_n 3, 1) := dz_at dqL_law_p342i2 5 rfl
theorem dL_law_936 : decode cL_law 936 = .ok (.iconst 2, 1) := dz_at dqL_law_p342i2 6 rfl
theorem dL_law_937 : decode cL_law 937 = .ok (.iadd, 1) := dz_at dqL_law_p342i2 7 rfl
theorem dL_law_938 : decode cL_law 938 = .ok (.iaload, 1) := dz_at dqL_law_p342i2 8 rfl
theorem dL_law_939 : decode cL_law 939 = .ok (.invokevirtual 117, 3) := dz_at dqL_law_p342i2 9 rfl
theorem dL_law_942 : decode cL_law 942 = .ok (.pop, 1) := dz_at dqL_law_p342i2 10 rfl
theorem dL_law_943 : decode cL_law 943 = .ok (.aload_n 2, 1) := dz_at dqL_law_p342i2 11 rfl
theorem dL_law_944 : decode cL_law 944 = .ok (.aload_n 0, 1) := dz_at dqL_law_p342i2 12 rfl
theorem dL_law_945 : decode cL_law 945 = .ok (.iload_n 3, 1) := dz_at dqL_law_p342i2 13 rfl
set_option maxRecDepth 20000 in
theorem dqL_law_p342i3 : dz_rn 946 (cL_law.data.toList.drop 946) [(0, 9), (0, 11), (0, 10), (0, 4), (0, 3), (0, 14), (0, 11), (0, 10), (3, 1), (0, 24), (4, 0), (0, 5), (0, 4), (0, 3)] = some [(946, .iconst 1, 1), (947, .iadd, 1), (948, .iaload, 1), (949, .aload_n 0, 1), (950, .iload_n 3, 1), (951, .iconst 2, 1), (952, .iadd, 1), (953, .iaload, 1), (954, .invokevirtual 120, 3), (957, .pop, 1), (958, .goto 290, 3), (961, .aload_n 1, 1), (962, .aload_n 0, 1), (963, .iload_n 3, 1)] := by decide +kernel
theorem dL_law_946 : decode cL_law 946 = .ok (.iconst 1, 1) := dz_at dqL_law_p342i3 0 rfl
theorem dL_law_947 : decode cL_law 947 = .ok (.iadd, 1) := dz_at dqL_law_p342i3 1 rfl
theorem dL_law_948 : decode cL_law 948 = .ok (.iaload, 1) := dz_at dqL_law_p342i3 2 rfl
theorem dL_law_949 : decode cL_law 949 = .ok (.aload_n 0, 1) := dz_at dqL_law_p342i3 3 rfl
theorem dL_law_950 : decode cL_law 950 = .ok (.iload_n 3, 1) := dz_at dqL_law_p342i3 4 rfl
theorem dL_law_951 : decode cL_law 951 = .ok (.iconst 2, 1) := dz_at dqL_law_p342i3 5 rfl
theorem dL_law_952 : decode cL_law 952 = .ok (.iadd, 1) := dz_at dqL_law_p342i3 6 rfl
theorem dL_law_953 : decode cL_law 953 = .ok (.iaload, 1) := dz_at dqL_law_p342i3 7 rfl
theorem dL_law_954 : decode cL_law 954 = .ok (.invokevirtual 120, 3) := dz_at dqL_law_p342i3 8 rfl
theorem dL_law_957 : decode cL_law 957 = .ok (.pop, 1) := dz_at dqL_law_p342i3 9 rfl
theorem dL_law_958 : decode cL_law 958 = .ok (.goto 290, 3) := dz_at dqL_law_p342i3 10 rfl
theorem dL_law_961 : decode cL_law 961 = .ok (.aload_n 1, 1) := dz_at dqL_law_p342i3 11 rfl
theorem dL_law_962 : decode cL_law 962 = .ok (.aload_n 0, 1) := dz_at dqL_law_p342i3 12 rfl
theorem dL_law_963 : decode cL_law 963 = .ok (.iload_n 3, 1) := dz_at dqL_law_p342i3 13 rfl
set_option maxRecDepth 20000 in
theorem dqL_law_p342i4 : dz_rn 964 (cL_law.data.toList.drop 964) [(0, 9), (0, 11), (0, 10), (0, 4), (0, 3), (0, 14), (0, 11), (0, 10), (3, 1), (0, 24), (0, 6), (0, 4), (0, 3), (0, 9)] = some [(964, .iconst 1, 1), (965, .iadd, 1), (966, .iaload, 1), (967, .aload_n 0, 1), (968, .iload_n 3, 1), (969, .iconst 2, 1), (970, .iadd, 1), (971, .iaload, 1), (972, .invokevirtual 121, 3), (975, .pop, 1), (976, .aload_n 2, 1), (977, .aload_n 0, 1), (978, .iload_n 3, 1), (979, .iconst 1, 1)] := by decide +kernel
theorem dL_law_964 : decode cL_law 964 = .ok (.iconst 1, 1) := dz_at dqL_law_p342i4 0 rfl
theorem dL_law_965 : decode cL_law 965 = .ok (.iadd, 1) := dz_at dqL_law_p342i4 1 rfl
theorem dL_law_966 : decode cL_law 966 = .ok (.iaload, 1) := dz_at dqL_law_p342i4 2 rfl
theorem dL_law_967 : decode cL_law 967 = .ok (.aload_n 0, 1) := dz_at dqL_law_p342i4 3 rfl
theorem dL_law_968 : decode cL_law 968 = .ok (.iload_n 3, 1) := dz_at dqL_law_p342i4 4 rfl
theorem dL_law_969 : decode cL_law 969 = .ok (.iconst 2, 1) := dz_at dqL_law_p342i4 5 rfl
theorem dL_law_970 : decode cL_law 970 = .ok (.iadd, 1) := dz_at dqL_law_p342i4 6 rfl
theorem dL_law_971 : decode cL_law 971 = .ok (.iaload, 1) := dz_at dqL_law_p342i4 7 rfl
theorem dL_law_972 : decode cL_law 972 = .ok (.invokevirtual 121, 3) := dz_at dqL_law_p342i4 8 rfl
theorem dL_law_975 : decode cL_law 975 = .ok (.pop, 1) := dz_at dqL_law_p342i4 9 rfl
theorem dL_law_976 : decode cL_law 976 = .ok (.aload_n 2, 1) := dz_at dqL_law_p342i4 10 rfl
theorem dL_law_977 : decode cL_law 977 = .ok (.aload_n 0, 1) := dz_at dqL_law_p342i4 11 rfl
theorem dL_law_978 : decode cL_law 978 = .ok (.iload_n 3, 1) := dz_at dqL_law_p342i4 12 rfl
theorem dL_law_979 : decode cL_law 979 = .ok (.iconst 1, 1) := dz_at dqL_law_p342i4 13 rfl
set_option maxRecDepth 20000 in
theorem dqL_law_p342i5 : dz_rn 980 (cL_law.data.toList.drop 980) [(0, 11), (0, 10), (0, 4), (0, 3)] = some [(980, .iadd, 1), (981, .iaload, 1), (982, .aload_n 0, 1), (983, .iload_n 3, 1)] := by decide +kernel
theorem dL_law_980 : decode cL_law 980 = .ok (.iadd, 1) := dz_at dqL_law_p342i5 0 rfl
theorem dL_law_981 : decode cL_law 981 = .ok (.iaload, 1) := dz_at dqL_law_p342i5 1 rfl
theorem dL_law_982 : decode cL_law 982 = .ok (.aload_n 0, 1) := dz_at dqL_law_p342i5 2 rfl
theorem dL_law_983 : decode cL_law 983 = .ok (.iload_n 3, 1) := dz_at dqL_law_p342i5 3 rfl
