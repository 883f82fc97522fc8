set_option maxRecDepth 20000 in
theorem dqL_law_p342l0 : dz_rn 1167 (cL_law.data.toList.drop 1167) [(0, 9), (0, 11), (0, 10), (0, 33), (2, 0), (0, 42), (0, 4), (0, 3), (0, 14), (0, 11), (0, 10), (0, 33), (3, 4), (0, 38)] = some [(1167, .iconst 1, 1), (1168, .iadd, 1), (1169, .iaload, 1), (1170, .i2l, 1), (1171, .bipush 32, 2), (1173, .lshl, 1), (1174, .aload_n 0, 1), (1175, .iload_n 3, 1), (1176, .iconst 2, 1), (1177, .iadd, 1), (1178, .iaload, 1), (1179, .i2l, 1), (1180, .ldc2_w 63, 3), (1183, .land, 1)] := by decide +kernel
theorem dL_law_1167 : decode cL_law 1167 = .ok (.iconst 1, 1) := dz_at dqL_law_p342l0 0 rfl
theorem dL_law_1168 : decode cL_law 1168 = .ok (.iadd, 1) := dz_at dqL_law_p342l0 1 rfl
theorem dL_law_1169 : decode cL_law 1169 = .ok (.iaload, 1) := dz_at dqL_law_p342l0 2 rfl
theorem dL_law_1170 : decode cL_law 1170 = .ok (.i2l, 1) := dz_at dqL_law_p342l0 3 rfl
theorem dL_law_1171 : decode cL_law 1171 = .ok (.bipush 32, 2) := dz_at dqL_law_p342l0 4 rfl
theorem dL_law_1173 : decode cL_law 1173 = .ok (.lshl, 1) := dz_at dqL_law_p342l0 5 rfl
theorem dL_law_1174 : decode cL_law 1174 = .ok (.aload_n 0, 1) := dz_at dqL_law_p342l0 6 rfl
theorem dL_law_1175 : decode cL_law 1175 = .ok (.iload_n 3, 1) := dz_at dqL_law_p342l0 7 rfl
theorem dL_law_1176 : decode cL_law 1176 = .ok (.iconst 2, 1) := dz_at dqL_law_p342l0 8 rfl
theorem dL_law_1177 : decode cL_law 1177 = .ok (.iadd, 1) := dz_at dqL_law_p342l0 9 rfl
theorem dL_law_1178 : decode cL_law 1178 = .ok (.iaload, 1) := dz_at dqL_law_p342l0 10 rfl
theorem dL_law_1179 : decode cL_law 1179 = .ok (.i2l, 1) := dz_at dqL_law_p342l0 11 rfl
theorem dL_law_1180 : decode cL_law 1180 = .ok (.ldc2_w 63, 3) := dz_at dqL_law_p342l0 12 rfl
theorem dL_law_1183 : decode cL_law 1183 = .ok (.land, 1) := dz_at dqL_law_p342l0 13 rfl
set_option maxRecDepth 20000 in
theorem dqL_law_p342l1 : dz_rn 1184 (cL_law.data.toList.drop 1184) [(0, 43), (0, 4), (0, 3), (0, 15), (0, 11), (0, 10), (0, 4), (0, 3), (0, 16), (0, 11), (0, 10), (3, 1), (0, 24), (4, 0)] = some [(1184, .lor, 1), (1185, .aload_n 0, 1), (1186, .iload_n 3, 1), (1187, .iconst 3, 1), (1188, .iadd, 1), (1189, .iaload, 1), (1190, .aload_n 0, 1), (1191, .iload_n 3, 1), (1192, .iconst 4, 1), (1193, .iadd, 1), (1194, .iaload, 1), (1195, .invokevirtual 141, 3), (1198, .pop, 1), (1199, .goto 49, 3)] := by decide +kernel
theorem dL_law_1184 : decode cL_law 1184 = .ok (.lor, 1) := dz_at dqL_law_p342l1 0 rfl
theorem dL_law_1185 : decode cL_law 1185 = .ok (.aload_n 0, 1) := dz_at dqL_law_p342l1 1 rfl
theorem dL_law_1186 : decode cL_law 1186 = .ok (.iload_n 3, 1) := dz_at dqL_law_p342l1 2 rfl
theorem dL_law_1187 : decode cL_law 1187 = .ok (.iconst 3, 1) := dz_at dqL_law_p342l1 3 rfl
theorem dL_law_1188 : decode cL_law 1188 = .ok (.iadd, 1) := dz_at dqL_law_p342l1 4 rfl
theorem dL_law_1189 : decode cL_law 1189 = .ok (.iaload, 1) := dz_at dqL_law_p342l1 5 rfl
theorem dL_law_1190 : decode cL_law 1190 = .ok (.aload_n 0, 1) := dz_at dqL_law_p342l1 6 rfl
theorem dL_law_1191 : decode cL_law 1191 = .ok (.iload_n 3, 1) := dz_at dqL_law_p342l1 7 rfl
theorem dL_law_1192 : decode cL_law 1192 = .ok (.iconst 4, 1) := dz_at dqL_law_p342l1 8 rfl
theorem dL_law_1193 : decode cL_law 1193 = .ok (.iadd, 1) := dz_at dqL_law_p342l1 9 rfl
theorem dL_law_1194 : decode cL_law 1194 = .ok (.iaload, 1) := dz_at dqL_law_p342l1 10 rfl
theorem dL_law_1195 : decode cL_law 1195 = .ok (.invokevirtual 141, 3) := dz_at dqL_law_p342l1 11 rfl
theorem dL_law_1198 : decode cL_law 1198 = .ok (.pop, 1) := dz_at dqL_law_p342l1 12 rfl
theorem dL_law_1199 : decode cL_law 1199 = .ok (.goto 49, 3) := dz_at dqL_law_p342l1 13 rfl
set_option maxRecDepth 20000 in
theorem dqL_law_p342l2 : dz_rn 1202 (cL_law.data.toList.drop 1202) [(0, 5), (0, 4), (0, 3), (0, 9), (0, 11), (0, 10), (3, 1), (0, 24), (0, 6), (0, 4), (0, 3), (0, 9), (0, 11), (0, 10)] = some [(1202, .aload_n 1, 1), (1203, .aload_n 0, 1), (1204, .iload_n 3, 1), (1205, .iconst 1, 1), (1206, .iadd, 1), (1207, .iaload, 1), (1208, .invokevirtual 142, 3), (1211, .pop, 1), (1212, .aload_n 2, 1), (1213, .aload_n 0, 1), (1214, .iload_n 3, 1), (1215, .iconst 1, 1), (1216, .iadd, 1), (1217, .iaload, 1)] := by decide +kernel
theorem dL_law_1202 : decode cL_law 1202 = .ok (.aload_n 1, 1) := dz_at dqL_law_p342l2 0 rfl
theorem dL_law_1203 : decode cL_law 1203 = .ok (.aload_n 0, 1) := dz_at dqL_law_p342l2 1 rfl
theorem dL_law_1204 : decode cL_law 1204 = .ok (.iload_n 3, 1) := dz_at dqL_law_p342l2 2 rfl
theorem dL_law_1205 : decode cL_law 1205 = .ok (.iconst 1, 1) := dz_at dqL_law_p342l2 3 rfl
theorem dL_law_1206 : decode cL_law 1206 = .ok (.iadd, 1) := dz_at dqL_law_p342l2 4 rfl
theorem dL_law_1207 : decode cL_law 1207 = .ok (.iaload, 1) := dz_at dqL_law_p342l2 5 rfl
theorem dL_law_1208 : decode cL_law 1208 = .ok (.invokevirtual 142, 3) := dz_at dqL_law_p342l2 6 rfl
theorem dL_law_1211 : decode cL_law 1211 = .ok (.pop, 1) := dz_at dqL_law_p342l2 7 rfl
theorem dL_law_1212 : decode cL_law 1212 = .ok (.aload_n 2, 1) := dz_at dqL_law_p342l2 8 rfl
theorem dL_law_1213 : decode cL_law 1213 = .ok (.aload_n 0, 1) := dz_at dqL_law_p342l2 9 rfl
theorem dL_law_1214 : decode cL_law 1214 = .ok (.iload_n 3, 1) := dz_at dqL_law_p342l2 10 rfl
theorem dL_law_1215 : decode cL_law 1215 = .ok (.iconst 1, 1) := dz_at dqL_law_p342l2 11 rfl
theorem dL_law_1216 : decode cL_law 1216 = .ok (.iadd, 1) := dz_at dqL_law_p342l2 12 rfl
theorem dL_law_1217 : decode cL_law 1217 = .ok (.iaload, 1) := dz_at dqL_law_p342l2 13 rfl
set_option maxRecDepth 20000 in
theorem dqL_law_p342l3 : dz_rn 1218 (cL_law.data.toList.drop 1218) [(3, 1), (0, 24), (4, 0), (0, 5), (0, 4), (0, 3), (0, 9), (0, 11), (0, 10), (3, 1), (0, 24), (0, 6), (0, 4), (0, 3)] = some [(1218, .invokevirtual 145, 3), (1221, .pop, 1), (1222, .goto 26, 3), (1225, .aload_n 1, 1), (1226, .aload_n 0, 1), (1227, .iload_n 3, 1), (1228, .iconst 1, 1), (1229, .iadd, 1), (1230, .iaload, 1), (1231, .invokevirtual 146, 3), (1234, .pop, 1), (1235, .aload_n 2, 1), (1236, .aload_n 0, 1), (1237, .iload_n 3, 1)] := by decide +kernel
theorem dL_law_1218 : decode cL_law 1218 = .ok (.invokevirtual 145, 3) := dz_at dqL_law_p342l3 0 rfl
theorem dL_law_1221 : decode cL_law 1221 = .ok (.pop, 1) := dz_at dqL_law_p342l3 1 rfl
theorem dL_law_1222 : decode cL_law 1222 = .ok (.goto 26, 3) := dz_at dqL_law_p342l3 2 rfl
theorem dL_law_1225 : decode cL_law 1225 = .ok (.aload_n 1, 1) := dz_at dqL_law_p342l3 3 rfl
theorem dL_law_1226 : decode cL_law 1226 = .ok (.aload_n 0, 1) := dz_at dqL_law_p342l3 4 rfl
theorem dL_law_1227 : decode cL_law 1227 = .ok (.iload_n 3, 1) := dz_at dqL_law_p342l3 5 rfl
theorem dL_law_1228 : decode cL_law 1228 = .ok (.iconst 1, 1) := dz_at dqL_law_p342l3 6 rfl
theorem dL_law_1229 : decode cL_law 1229 = .ok (.iadd, 1) := dz_at dqL_law_p342l3 7 rfl
theorem dL_law_1230 : decode cL_law 1230 = .ok (.iaload, 1) := dz_at dqL_law_p342l3 8 rfl
theorem dL_law_1231 : decode cL_law 1231 = .ok (.invokevirtual 146, 3) := dz_at dqL_law_p342l3 9 rfl
theorem dL_law_1234 : decode cL_law 1234 = .ok (.pop, 1) := dz_at dqL_law_p342l3 10 rfl
theorem dL_law_1235 : decode cL_law 1235 = .ok (.aload_n 2, 1) := dz_at dqL_law_p342l3 11 rfl
theorem dL_law_1236 : decode cL_law 1236 = .ok (.aload_n 0, 1) := dz_at dqL_law_p342l3 12 rfl
theorem dL_law_1237 : decode cL_law 1237 = .ok (.iload_n 3, 1) := dz_at dqL_law_p342l3 13 rfl
set_option maxRecDepth 20000 in
theorem dqL_law_p342l4 : dz_rn 1238 (cL_law.data.toList.drop 1238) [(0, 9), (0, 11), (0, 10), (3, 1), (0, 24), (4, 0), (5, 0), (4, 0), (0, 9), (0, 12)] = some [(1238, .iconst 1, 1), (1239, .iadd, 1), (1240, .iaload, 1), (1241, .invokevirtual 149, 3), (1244, .pop, 1), (1245, .goto 3, 3), (1248, .iinc 3 5, 3), (1251, .goto (-1233), 3), (1254, .iconst 1, 1), (1255, .ireturn, 1)] := by decide +kernel
theorem dL_law_1238 : decode cL_law 1238 = .ok (.iconst 1, 1) := dz_at dqL_law_p342l4 0 rfl
theorem dL_law_1239 : decode cL_law 1239 = .ok (.iadd, 1) := dz_at dqL_law_p342l4 1 rfl
theorem dL_law_1240 : decode cL_law 1240 = .ok (.iaload, 1) := dz_at dqL_law_p342l4 2 rfl
theorem dL_law_1241 : decode cL_law 1241 = .ok (.invokevirtual 149, 3) := dz_at dqL_law_p342l4 3 rfl
theorem dL_law_1244 : decode cL_law 1244 = .ok (.pop, 1) := dz_at dqL_law_p342l4 4 rfl
theorem dL_law_1245 : decode cL_law 1245 = .ok (.goto 3, 3) := dz_at dqL_law_p342l4 5 rfl
theorem dL_law_1248 : decode cL_law 1248 = .ok (.iinc 3 5, 3) := dz_at dqL_law_p342l4 6 rfl
theorem dL_law_1251 : decode cL_law 1251 = .ok (.goto (-1233), 3) := dz_at dqL_law_p342l4 7 rfl
theorem dL_law_1254 : decode cL_law 1254 = .ok (.iconst 1, 1) := dz_at dqL_law_p342l4 8 rfl
theorem dL_law_1255 : decode cL_law 1255 = .ok (.ireturn, 1) := dz_at dqL_law_p342l4 9 rfl
