set_option maxRecDepth 20000 in
theorem dqL_law_p342k0 : dz_rn 1078 (cL_law.data.toList.drop 1078) [(0, 10), (3, 1), (0, 24), (4, 0), (0, 5), (0, 4), (0, 3), (0, 9), (0, 11), (0, 10), (0, 4), (0, 3), (0, 14), (0, 11)] = some [(1078, .iaload, 1), (1079, .invokevirtual 133, 3), (1082, .pop, 1), (1083, .goto 165, 3), (1086, .aload_n 1, 1), (1087, .aload_n 0, 1), (1088, .iload_n 3, 1), (1089, .iconst 1, 1), (1090, .iadd, 1), (1091, .iaload, 1), (1092, .aload_n 0, 1), (1093, .iload_n 3, 1), (1094, .iconst 2, 1), (1095, .iadd, 1)] := by decide +kernel
theorem dL_law_1078 : decode cL_law 1078 = .ok (.iaload, 1) := dz_at dqL_law_p342k0 0 rfl
theorem dL_law_1079 : decode cL_law 1079 = .ok (.invokevirtual 133, 3) := dz_at dqL_law_p342k0 1 rfl
theorem dL_law_1082 : decode cL_law 1082 = .ok (.pop, 1) := dz_at dqL_law_p342k0 2 rfl
theorem dL_law_1083 : decode cL_law 1083 = .ok (.goto 165, 3) := dz_at dqL_law_p342k0 3 rfl
theorem dL_law_1086 : decode cL_law 1086 = .ok (.aload_n 1, 1) := dz_at dqL_law_p342k0 4 rfl
theorem dL_law_1087 : decode cL_law 1087 = .ok (.aload_n 0, 1) := dz_at dqL_law_p342k0 5 rfl
theorem dL_law_1088 : decode cL_law 1088 = .ok (.iload_n 3, 1) := dz_at dqL_law_p342k0 6 rfl
theorem dL_law_1089 : decode cL_law 1089 = .ok (.iconst 1, 1) := dz_at dqL_law_p342k0 7 rfl
theorem dL_law_1090 : decode cL_law 1090 = .ok (.iadd, 1) := dz_at dqL_law_p342k0 8 rfl
theorem dL_law_1091 : decode cL_law 1091 = .ok (.iaload, 1) := dz_at dqL_law_p342k0 9 rfl
theorem dL_law_1092 : decode cL_law 1092 = .ok (.aload_n 0, 1) := dz_at dqL_law_p342k0 10 rfl
theorem dL_law_1093 : decode cL_law 1093 = .ok (.iload_n 3, 1) := dz_at dqL_law_p342k0 11 rfl
theorem dL_law_1094 : decode cL_law 1094 = .ok (.iconst 2, 1) := dz_at dqL_law_p342k0 12 rfl
theorem dL_law_1095 : decode cL_law 1095 = .ok (.iadd, 1) := dz_at dqL_law_p342k0 13 rfl
set_option maxRecDepth 20000 in
theorem dqL_law_p342k1 : dz_rn 1096 (cL_law.data.toList.drop 1096) [(0, 10), (0, 4), (0, 3), (0, 15), (0, 11), (0, 10), (3, 1), (0, 24), (0, 6), (0, 4), (0, 3), (0, 9), (0, 11), (0, 10)] = some [(1096, .iaload, 1), (1097, .aload_n 0, 1), (1098, .iload_n 3, 1), (1099, .iconst 3, 1), (1100, .iadd, 1), (1101, .iaload, 1), (1102, .invokevirtual 134, 3), (1105, .pop, 1), (1106, .aload_n 2, 1), (1107, .aload_n 0, 1), (1108, .iload_n 3, 1), (1109, .iconst 1, 1), (1110, .iadd, 1), (1111, .iaload, 1)] := by decide +kernel
theorem dL_law_1096 : decode cL_law 1096 = .ok (.iaload, 1) := dz_at dqL_law_p342k1 0 rfl
theorem dL_law_1097 : decode cL_law 1097 = .ok (.aload_n 0, 1) := dz_at dqL_law_p342k1 1 rfl
theorem dL_law_1098 : decode cL_law 1098 = .ok (.iload_n 3, 1) := dz_at dqL_law_p342k1 2 rfl
theorem dL_law_1099 : decode cL_law 1099 = .ok (.iconst 3, 1) := dz_at dqL_law_p342k1 3 rfl
theorem dL_law_1100 : decode cL_law 1100 = .ok (.iadd, 1) := dz_at dqL_law_p342k1 4 rfl
theorem dL_law_1101 : decode cL_law 1101 = .ok (.iaload, 1) := dz_at dqL_law_p342k1 5 rfl
theorem dL_law_1102 : decode cL_law 1102 = .ok (.invokevirtual 134, 3) := dz_at dqL_law_p342k1 6 rfl
theorem dL_law_1105 : decode cL_law 1105 = .ok (.pop, 1) := dz_at dqL_law_p342k1 7 rfl
theorem dL_law_1106 : decode cL_law 1106 = .ok (.aload_n 2, 1) := dz_at dqL_law_p342k1 8 rfl
theorem dL_law_1107 : decode cL_law 1107 = .ok (.aload_n 0, 1) := dz_at dqL_law_p342k1 9 rfl
theorem dL_law_1108 : decode cL_law 1108 = .ok (.iload_n 3, 1) := dz_at dqL_law_p342k1 10 rfl
theorem dL_law_1109 : decode cL_law 1109 = .ok (.iconst 1, 1) := dz_at dqL_law_p342k1 11 rfl
theorem dL_law_1110 : decode cL_law 1110 = .ok (.iadd, 1) := dz_at dqL_law_p342k1 12 rfl
theorem dL_law_1111 : decode cL_law 1111 = .ok (.iaload, 1) := dz_at dqL_law_p342k1 13 rfl
set_option maxRecDepth 20000 in
theorem dqL_law_p342k2 : dz_rn 1112 (cL_law.data.toList.drop 1112) [(0, 4), (0, 3), (0, 14), (0, 11), (0, 10), (0, 4), (0, 3), (0, 15), (0, 11), (0, 10), (3, 1), (0, 24), (4, 0), (0, 5)] = some [(1112, .aload_n 0, 1), (1113, .iload_n 3, 1), (1114, .iconst 2, 1), (1115, .iadd, 1), (1116, .iaload, 1), (1117, .aload_n 0, 1), (1118, .iload_n 3, 1), (1119, .iconst 3, 1), (1120, .iadd, 1), (1121, .iaload, 1), (1122, .invokevirtual 137, 3), (1125, .pop, 1), (1126, .goto 122, 3), (1129, .aload_n 1, 1)] := by decide +kernel
theorem dL_law_1112 : decode cL_law 1112 = .ok (.aload_n 0, 1) := dz_at dqL_law_p342k2 0 rfl
theorem dL_law_1113 : decode cL_law 1113 = .ok (.iload_n 3, 1) := dz_at dqL_law_p342k2 1 rfl
theorem dL_law_1114 : decode cL_law 1114 = .ok (.iconst 2, 1) := dz_at dqL_law_p342k2 2 rfl
theorem dL_law_1115 : decode cL_law 1115 = .ok (.iadd, 1) := dz_at dqL_law_p342k2 3 rfl
theorem dL_law_1116 : decode cL_law 1116 = .ok (.iaload, 1) := dz_at dqL_law_p342k2 4 rfl
theorem dL_law_1117 : decode cL_law 1117 = .ok (.aload_n 0, 1) := dz_at dqL_law_p342k2 5 rfl
theorem dL_law_1118 : decode cL_law 1118 = .ok (.iload_n 3, 1) := dz_at dqL_law_p342k2 6 rfl
theorem dL_law_1119 : decode cL_law 1119 = .ok (.iconst 3, 1) := dz_at dqL_law_p342k2 7 rfl
theorem dL_law_1120 : decode cL_law 1120 = .ok (.iadd, 1) := dz_at dqL_law_p342k2 8 rfl
theorem dL_law_1121 : decode cL_law 1121 = .ok (.iaload, 1) := dz_at dqL_law_p342k2 9 rfl
theorem dL_law_1122 : decode cL_law 1122 = .ok (.invokevirtual 137, 3) := dz_at dqL_law_p342k2 10 rfl
theorem dL_law_1125 : decode cL_law 1125 = .ok (.pop, 1) := dz_at dqL_law_p342k2 11 rfl
theorem dL_law_1126 : decode cL_law 1126 = .ok (.goto 122, 3) := dz_at dqL_law_p342k2 12 rfl
theorem dL_law_1129 : decode cL_law 1129 = .ok (.aload_n 1, 1) := dz_at dqL_law_p342k2 13 rfl
set_option maxRecDepth 20000 in
theorem dqL_law_p342k3 : dz_rn 1130 (cL_law.data.toList.drop 1130) [(0, 4), (0, 3), (0, 9), (0, 11), (0, 10), (0, 33), (2, 0), (0, 42), (0, 4), (0, 3), (0, 14), (0, 11), (0, 10), (0, 33)] = some [(1130, .aload_n 0, 1), (1131, .iload_n 3, 1), (1132, .iconst 1, 1), (1133, .iadd, 1), (1134, .iaload, 1), (1135, .i2l, 1), (1136, .bipush 32, 2), (1138, .lshl, 1), (1139, .aload_n 0, 1), (1140, .iload_n 3, 1), (1141, .iconst 2, 1), (1142, .iadd, 1), (1143, .iaload, 1), (1144, .i2l, 1)] := by decide +kernel
theorem dL_law_1130 : decode cL_law 1130 = .ok (.aload_n 0, 1) := dz_at dqL_law_p342k3 0 rfl
theorem dL_law_1131 : decode cL_law 1131 = .ok (.iload_n 3, 1) := dz_at dqL_law_p342k3 1 rfl
theorem dL_law_1132 : decode cL_law 1132 = .ok (.iconst 1, 1) := dz_at dqL_law_p342k3 2 rfl
theorem dL_law_1133 : decode cL_law 1133 = .ok (.iadd, 1) := dz_at dqL_law_p342k3 3 rfl
theorem dL_law_1134 : decode cL_law 1134 = .ok (.iaload, 1) := dz_at dqL_law_p342k3 4 rfl
theorem dL_law_1135 : decode cL_law 1135 = .ok (.i2l, 1) := dz_at dqL_law_p342k3 5 rfl
theorem dL_law_1136 : decode cL_law 1136 = .ok (.bipush 32, 2) := dz_at dqL_law_p342k3 6 rfl
theorem dL_law_1138 : decode cL_law 1138 = .ok (.lshl, 1) := dz_at dqL_law_p342k3 7 rfl
theorem dL_law_1139 : decode cL_law 1139 = .ok (.aload_n 0, 1) := dz_at dqL_law_p342k3 8 rfl
theorem dL_law_1140 : decode cL_law 1140 = .ok (.iload_n 3, 1) := dz_at dqL_law_p342k3 9 rfl
theorem dL_law_1141 : decode cL_law 1141 = .ok (.iconst 2, 1) := dz_at dqL_law_p342k3 10 rfl
theorem dL_law_1142 : decode cL_law 1142 = .ok (.iadd, 1) := dz_at dqL_law_p342k3 11 rfl
theorem dL_law_1143 : decode cL_law 1143 = .ok (.iaload, 1) := dz_at dqL_law_p342k3 12 rfl
theorem dL_law_1144 : decode cL_law 1144 = .ok (.i2l, 1) := dz_at dqL_law_p342k3 13 rfl
set_option maxRecDepth 20000 in
theorem dqL_law_p342k4 : dz_rn 1145 (cL_law.data.toList.drop 1145) [(3, 4), (0, 38), (0, 43), (0, 4), (0, 3), (0, 15), (0, 11), (0, 10), (0, 4), (0, 3), (0, 16), (0, 11), (0, 10), (3, 1)] = some [(1145, .ldc2_w 63, 3), (1148, .land, 1), (1149, .lor, 1), (1150, .aload_n 0, 1), (1151, .iload_n 3, 1), (1152, .iconst 3, 1), (1153, .iadd, 1), (1154, .iaload, 1), (1155, .aload_n 0, 1), (1156, .iload_n 3, 1), (1157, .iconst 4, 1), (1158, .iadd, 1), (1159, .iaload, 1), (1160, .invokevirtual 138, 3)] := by decide +kernel
theorem dL_law_1145 : decode cL_law 1145 = .ok (.ldc2_w 63, 3) := dz_at dqL_law_p342k4 0 rfl
theorem dL_law_1148 : decode cL_law 1148 = .ok (.land, 1) := dz_at dqL_law_p342k4 1 rfl
theorem dL_law_1149 : decode cL_law 1149 = .ok (.lor, 1) := dz_at dqL_law_p342k4 2 rfl
theorem dL_law_1150 : decode cL_law 1150 = .ok (.aload_n 0, 1) := dz_at dqL_law_p342k4 3 rfl
theorem dL_law_1151 : decode cL_law 1151 = .ok (.iload_n 3, 1) := dz_at dqL_law_p342k4 4 rfl
theorem dL_law_1152 : decode cL_law 1152 = .ok (.iconst 3, 1) := dz_at dqL_law_p342k4 5 rfl
theorem dL_law_1153 : decode cL_law 1153 = .ok (.iadd, 1) := dz_at dqL_law_p342k4 6 rfl
theorem dL_law_1154 : decode cL_law 1154 = .ok (.iaload, 1) := dz_at dqL_law_p342k4 7 rfl
theorem dL_law_1155 : decode cL_law 1155 = .ok (.aload_n 0, 1) := dz_at dqL_law_p342k4 8 rfl
theorem dL_law_1156 : decode cL_law 1156 = .ok (.iload_n 3, 1) := dz_at dqL_law_p342k4 9 rfl
theorem dL_law_1157 : decode cL_law 1157 = .ok (.iconst 4, 1) := dz_at dqL_law_p342k4 10 rfl
theorem dL_law_1158 : decode cL_law 1158 = .ok (.iadd, 1) := dz_at dqL_law_p342k4 11 rfl
theorem dL_law_1159 : decode cL_law 1159 = .ok (.iaload, 1) := dz_at dqL_law_p342k4 12 rfl
theorem dL_law_1160 : decode cL_law 1160 = .ok (.invokevirtual 138, 3) := dz_at dqL_law_p342k4 13 rfl
set_option maxRecDepth 20000 in
theorem dqL_law_p342k5 : dz_rn 1163 (cL_law.data.toList.drop 1163) [(0, 24), (0, 6), (0, 4), (0, 3)] = some [(1163, .pop, 1), (1164, .aload_n 2, 1), (1165, .aload_n 0, 1), (1166, .iload_n 3, 1)] := by decide +kernel
theorem dL_law_1163 : decode cL_law 1163 = .ok (.pop, 1) := dz_at dqL_law_p342k5 0 rfl
theorem dL_law_1164 : decode cL_law 1164 = .ok (.aload_n 2, 1) := dz_at dqL_law_p342k5 1 rfl
theorem dL_law_1165 : decode cL_law 1165 = .ok (.aload_n 0, 1) := dz_at dqL_law_p342k5 2 rfl
theorem dL_law_1166 : decode cL_law 1166 = .ok (.iload_n 3, 1) := dz_at dqL_law_p342k5 3 rfl
