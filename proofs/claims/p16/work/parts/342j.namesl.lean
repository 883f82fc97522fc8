set_option maxRecDepth 20000 in
theorem dqL_law_p342j0 : dz_rn 984 (cL_law.data.toList.drop 984) [(0, 14), (0, 11), (0, 10), (3, 1), (0, 24), (4, 0), (0, 5), (0, 4), (0, 3), (0, 9), (0, 11), (0, 10), (0, 4), (0, 3)] = some [(984, .iconst 2, 1), (985, .iadd, 1), (986, .iaload, 1), (987, .invokevirtual 124, 3), (990, .pop, 1), (991, .goto 257, 3), (994, .aload_n 1, 1), (995, .aload_n 0, 1), (996, .iload_n 3, 1), (997, .iconst 1, 1), (998, .iadd, 1), (999, .iaload, 1), (1000, .aload_n 0, 1), (1001, .iload_n 3, 1)] := by decide +kernel
theorem dL_law_984 : decode cL_law 984 = .ok (.iconst 2, 1) := dz_at dqL_law_p342j0 0 rfl
theorem dL_law_985 : decode cL_law 985 = .ok (.iadd, 1) := dz_at dqL_law_p342j0 1 rfl
theorem dL_law_986 : decode cL_law 986 = .ok (.iaload, 1) := dz_at dqL_law_p342j0 2 rfl
theorem dL_law_987 : decode cL_law 987 = .ok (.invokevirtual 124, 3) := dz_at dqL_law_p342j0 3 rfl
theorem dL_law_990 : decode cL_law 990 = .ok (.pop, 1) := dz_at dqL_law_p342j0 4 rfl
theorem dL_law_991 : decode cL_law 991 = .ok (.goto 257, 3) := dz_at dqL_law_p342j0 5 rfl
theorem dL_law_994 : decode cL_law 994 = .ok (.aload_n 1, 1) := dz_at dqL_law_p342j0 6 rfl
theorem dL_law_995 : decode cL_law 995 = .ok (.aload_n 0, 1) := dz_at dqL_law_p342j0 7 rfl
theorem dL_law_996 : decode cL_law 996 = .ok (.iload_n 3, 1) := dz_at dqL_law_p342j0 8 rfl
theorem dL_law_997 : decode cL_law 997 = .ok (.iconst 1, 1) := dz_at dqL_law_p342j0 9 rfl
theorem dL_law_998 : decode cL_law 998 = .ok (.iadd, 1) := dz_at dqL_law_p342j0 10 rfl
theorem dL_law_999 : decode cL_law 999 = .ok (.iaload, 1) := dz_at dqL_law_p342j0 11 rfl
theorem dL_law_1000 : decode cL_law 1000 = .ok (.aload_n 0, 1) := dz_at dqL_law_p342j0 12 rfl
theorem dL_law_1001 : decode cL_law 1001 = .ok (.iload_n 3, 1) := dz_at dqL_law_p342j0 13 rfl
set_option maxRecDepth 20000 in
theorem dqL_law_p342j1 : dz_rn 1002 (cL_law.data.toList.drop 1002) [(0, 14), (0, 11), (0, 10), (0, 4), (0, 3), (0, 15), (0, 11), (0, 10), (4, 7), (0, 9), (4, 0), (0, 8), (3, 1), (0, 24)] = some [(1002, .iconst 2, 1), (1003, .iadd, 1), (1004, .iaload, 1), (1005, .aload_n 0, 1), (1006, .iload_n 3, 1), (1007, .iconst 3, 1), (1008, .iadd, 1), (1009, .iaload, 1), (1010, .ifCond .eq 7, 3), (1013, .iconst 1, 1), (1014, .goto 4, 3), (1017, .iconst 0, 1), (1018, .invokevirtual 125, 3), (1021, .pop, 1)] := by decide +kernel
theorem dL_law_1002 : decode cL_law 1002 = .ok (.iconst 2, 1) := dz_at dqL_law_p342j1 0 rfl
theorem dL_law_1003 : decode cL_law 1003 = .ok (.iadd, 1) := dz_at dqL_law_p342j1 1 rfl
theorem dL_law_1004 : decode cL_law 1004 = .ok (.iaload, 1) := dz_at dqL_law_p342j1 2 rfl
theorem dL_law_1005 : decode cL_law 1005 = .ok (.aload_n 0, 1) := dz_at dqL_law_p342j1 3 rfl
theorem dL_law_1006 : decode cL_law 1006 = .ok (.iload_n 3, 1) := dz_at dqL_law_p342j1 4 rfl
theorem dL_law_1007 : decode cL_law 1007 = .ok (.iconst 3, 1) := dz_at dqL_law_p342j1 5 rfl
theorem dL_law_1008 : decode cL_law 1008 = .ok (.iadd, 1) := dz_at dqL_law_p342j1 6 rfl
theorem dL_law_1009 : decode cL_law 1009 = .ok (.iaload, 1) := dz_at dqL_law_p342j1 7 rfl
theorem dL_law_1010 : decode cL_law 1010 = .ok (.ifCond .eq 7, 3) := dz_at dqL_law_p342j1 8 rfl
theorem dL_law_1013 : decode cL_law 1013 = .ok (.iconst 1, 1) := dz_at dqL_law_p342j1 9 rfl
theorem dL_law_1014 : decode cL_law 1014 = .ok (.goto 4, 3) := dz_at dqL_law_p342j1 10 rfl
theorem dL_law_1017 : decode cL_law 1017 = .ok (.iconst 0, 1) := dz_at dqL_law_p342j1 11 rfl
theorem dL_law_1018 : decode cL_law 1018 = .ok (.invokevirtual 125, 3) := dz_at dqL_law_p342j1 12 rfl
theorem dL_law_1021 : decode cL_law 1021 = .ok (.pop, 1) := dz_at dqL_law_p342j1 13 rfl
set_option maxRecDepth 20000 in
theorem dqL_law_p342j2 : dz_rn 1022 (cL_law.data.toList.drop 1022) [(0, 6), (0, 4), (0, 3), (0, 9), (0, 11), (0, 10), (0, 4), (0, 3), (0, 14), (0, 11), (0, 10), (0, 4), (0, 3), (0, 15)] = some [(1022, .aload_n 2, 1), (1023, .aload_n 0, 1), (1024, .iload_n 3, 1), (1025, .iconst 1, 1), (1026, .iadd, 1), (1027, .iaload, 1), (1028, .aload_n 0, 1), (1029, .iload_n 3, 1), (1030, .iconst 2, 1), (1031, .iadd, 1), (1032, .iaload, 1), (1033, .aload_n 0, 1), (1034, .iload_n 3, 1), (1035, .iconst 3, 1)] := by decide +kernel
theorem dL_law_1022 : decode cL_law 1022 = .ok (.aload_n 2, 1) := dz_at dqL_law_p342j2 0 rfl
theorem dL_law_1023 : decode cL_law 1023 = .ok (.aload_n 0, 1) := dz_at dqL_law_p342j2 1 rfl
theorem dL_law_1024 : decode cL_law 1024 = .ok (.iload_n 3, 1) := dz_at dqL_law_p342j2 2 rfl
theorem dL_law_1025 : decode cL_law 1025 = .ok (.iconst 1, 1) := dz_at dqL_law_p342j2 3 rfl
theorem dL_law_1026 : decode cL_law 1026 = .ok (.iadd, 1) := dz_at dqL_law_p342j2 4 rfl
theorem dL_law_1027 : decode cL_law 1027 = .ok (.iaload, 1) := dz_at dqL_law_p342j2 5 rfl
theorem dL_law_1028 : decode cL_law 1028 = .ok (.aload_n 0, 1) := dz_at dqL_law_p342j2 6 rfl
theorem dL_law_1029 : decode cL_law 1029 = .ok (.iload_n 3, 1) := dz_at dqL_law_p342j2 7 rfl
theorem dL_law_1030 : decode cL_law 1030 = .ok (.iconst 2, 1) := dz_at dqL_law_p342j2 8 rfl
theorem dL_law_1031 : decode cL_law 1031 = .ok (.iadd, 1) := dz_at dqL_law_p342j2 9 rfl
theorem dL_law_1032 : decode cL_law 1032 = .ok (.iaload, 1) := dz_at dqL_law_p342j2 10 rfl
theorem dL_law_1033 : decode cL_law 1033 = .ok (.aload_n 0, 1) := dz_at dqL_law_p342j2 11 rfl
theorem dL_law_1034 : decode cL_law 1034 = .ok (.iload_n 3, 1) := dz_at dqL_law_p342j2 12 rfl
theorem dL_law_1035 : decode cL_law 1035 = .ok (.iconst 3, 1) := dz_at dqL_law_p342j2 13 rfl
set_option maxRecDepth 20000 in
theorem dqL_law_p342j3 : dz_rn 1036 (cL_law.data.toList.drop 1036) [(0, 11), (0, 10), (4, 7), (0, 9), (4, 0), (0, 8), (3, 1), (0, 24), (4, 0), (0, 5), (0, 4), (0, 3), (0, 9), (0, 11)] = some [(1036, .iadd, 1), (1037, .iaload, 1), (1038, .ifCond .eq 7, 3), (1041, .iconst 1, 1), (1042, .goto 4, 3), (1045, .iconst 0, 1), (1046, .invokevirtual 129, 3), (1049, .pop, 1), (1050, .goto 198, 3), (1053, .aload_n 1, 1), (1054, .aload_n 0, 1), (1055, .iload_n 3, 1), (1056, .iconst 1, 1), (1057, .iadd, 1)] := by decide +kernel
theorem dL_law_1036 : decode cL_law 1036 = .ok (.iadd, 1) := dz_at dqL_law_p342j3 0 rfl
theorem dL_law_1037 : decode cL_law 1037 = .ok (.iaload, 1) := dz_at dqL_law_p342j3 1 rfl
theorem dL_law_1038 : decode cL_law 1038 = .ok (.ifCond .eq 7, 3) := dz_at dqL_law_p342j3 2 rfl
theorem dL_law_1041 : decode cL_law 1041 = .ok (.iconst 1, 1) := dz_at dqL_law_p342j3 3 rfl
theorem dL_law_1042 : decode cL_law 1042 = .ok (.goto 4, 3) := dz_at dqL_law_p342j3 4 rfl
theorem dL_law_1045 : decode cL_law 1045 = .ok (.iconst 0, 1) := dz_at dqL_law_p342j3 5 rfl
theorem dL_law_1046 : decode cL_law 1046 = .ok (.invokevirtual 129, 3) := dz_at dqL_law_p342j3 6 rfl
theorem dL_law_1049 : decode cL_law 1049 = .ok (.pop, 1) := dz_at dqL_law_p342j3 7 rfl
theorem dL_law_1050 : decode cL_law 1050 = .ok (.goto 198, 3) := dz_at dqL_law_p342j3 8 rfl
theorem dL_law_1053 : decode cL_law 1053 = .ok (.aload_n 1, 1) := dz_at dqL_law_p342j3 9 rfl
theorem dL_law_1054 : decode cL_law 1054 = .ok (.aload_n 0, 1) := dz_at dqL_law_p342j3 10 rfl
theorem dL_law_1055 : decode cL_law 1055 = .ok (.iload_n 3, 1) := dz_at dqL_law_p342j3 11 rfl
theorem dL_law_1056 : decode cL_law 1056 = .ok (.iconst 1, 1) := dz_at dqL_law_p342j3 12 rfl
theorem dL_law_1057 : decode cL_law 1057 = .ok (.iadd, 1) := dz_at dqL_law_p342j3 13 rfl
set_option maxRecDepth 20000 in
theorem dqL_law_p342j4 : dz_rn 1058 (cL_law.data.toList.drop 1058) [(0, 10), (0, 4), (0, 3), (0, 14), (0, 11), (0, 10), (3, 1), (0, 24), (0, 6), (0, 4), (0, 3), (0, 9), (0, 11), (0, 10)] = some [(1058, .iaload, 1), (1059, .aload_n 0, 1), (1060, .iload_n 3, 1), (1061, .iconst 2, 1), (1062, .iadd, 1), (1063, .iaload, 1), (1064, .invokevirtual 130, 3), (1067, .pop, 1), (1068, .aload_n 2, 1), (1069, .aload_n 0, 1), (1070, .iload_n 3, 1), (1071, .iconst 1, 1), (1072, .iadd, 1), (1073, .iaload, 1)] := by decide +kernel
theorem dL_law_1058 : decode cL_law 1058 = .ok (.iaload, 1) := dz_at dqL_law_p342j4 0 rfl
theorem dL_law_1059 : decode cL_law 1059 = .ok (.aload_n 0, 1) := dz_at dqL_law_p342j4 1 rfl
theorem dL_law_1060 : decode cL_law 1060 = .ok (.iload_n 3, 1) := dz_at dqL_law_p342j4 2 rfl
theorem dL_law_1061 : decode cL_law 1061 = .ok (.iconst 2, 1) := dz_at dqL_law_p342j4 3 rfl
theorem dL_law_1062 : decode cL_law 1062 = .ok (.iadd, 1) := dz_at dqL_law_p342j4 4 rfl
theorem dL_law_1063 : decode cL_law 1063 = .ok (.iaload, 1) := dz_at dqL_law_p342j4 5 rfl
theorem dL_law_1064 : decode cL_law 1064 = .ok (.invokevirtual 130, 3) := dz_at dqL_law_p342j4 6 rfl
theorem dL_law_1067 : decode cL_law 1067 = .ok (.pop, 1) := dz_at dqL_law_p342j4 7 rfl
theorem dL_law_1068 : decode cL_law 1068 = .ok (.aload_n 2, 1) := dz_at dqL_law_p342j4 8 rfl
theorem dL_law_1069 : decode cL_law 1069 = .ok (.aload_n 0, 1) := dz_at dqL_law_p342j4 9 rfl
theorem dL_law_1070 : decode cL_law 1070 = .ok (.iload_n 3, 1) := dz_at dqL_law_p342j4 10 rfl
theorem dL_law_1071 : decode cL_law 1071 = .ok (.iconst 1, 1) := dz_at dqL_law_p342j4 11 rfl
theorem dL_law_1072 : decode cL_law 1072 = .ok (.iadd, 1) := dz_at dqL_law_p342j4 12 rfl
theorem dL_law_1073 : decode cL_law 1073 = .ok (.iaload, 1) := dz_at dqL_law_p342j4 13 rfl
set_option maxRecDepth 20000 in
theorem dqL_law_p342j5 : dz_rn 1074 (cL_law.data.toList.drop 1074) [(0, 4), (0, 3), (0, 14), (0, 11)] = some [(1074, .aload_n 0, 1), (1075, .iload_n 3, 1), (1076, .iconst 2, 1), (1077, .iadd, 1)] := by decide +kernel
theorem dL_law_1074 : decode cL_law 1074 = .ok (.aload_n 0, 1) := dz_at dqL_law_p342j5 0 rfl
theorem dL_law_1075 : decode cL_law 1075 = .ok (.iload_n 3, 1) := dz_at dqL_law_p342j5 1 rfl
theorem dL_law_1076 : decode cL_law 1076 = .ok (.iconst 2, 1) := dz_at dqL_law_p342j5 2 rfl
theorem dL_law_1077 : decode cL_law 1077 = .ok (.iadd, 1) := dz_at dqL_law_p342j5 3 rfl
