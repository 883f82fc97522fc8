set_option maxRecDepth 20000 in
theorem dqL_law_p342a0 : dz_rn 0 (cL_law.data.toList.drop 0) [(3, 6), (0, 28), (3, 5), (0, 48), (3, 6), (0, 28), (3, 5), (0, 49), (0, 8), (0, 21), (0, 3), (0, 4), (0, 44), (0, 17)] = some [(0, .new 7, 3), (3, .dup, 1), (4, .invokespecial 9, 3), (7, .astore_n 1, 1), (8, .new 10, 3), (11, .dup, 1), (12, .invokespecial 12, 3), (15, .astore_n 2, 1), (16, .iconst 0, 1), (17, .istore_n 3, 1), (18, .iload_n 3, 1), (19, .aload_n 0, 1), (20, .arraylength, 1), (21, .iconst 5, 1)] := by decide +kernel
theorem dL_law_0 : decode cL_law 0 = .ok (.new 7, 3) := dz_at dqL_law_p342a0 0 rfl
theorem dL_law_3 : decode cL_law 3 = .ok (.dup, 1) := dz_at dqL_law_p342a0 1 rfl
theorem dL_law_4 : decode cL_law 4 = .ok (.invokespecial 9, 3) := dz_at dqL_law_p342a0 2 rfl
theorem dL_law_7 : decode cL_law 7 = .ok (.astore_n 1, 1) := dz_at dqL_law_p342a0 3 rfl
theorem dL_law_8 : decode cL_law 8 = .ok (.new 10, 3) := dz_at dqL_law_p342a0 4 rfl
theorem dL_law_11 : decode cL_law 11 = .ok (.dup, 1) := dz_at dqL_law_p342a0 5 rfl
theorem dL_law_12 : decode cL_law 12 = .ok (.invokespecial 12, 3) := dz_at dqL_law_p342a0 6 rfl
theorem dL_law_15 : decode cL_law 15 = .ok (.astore_n 2, 1) := dz_at dqL_law_p342a0 7 rfl
theorem dL_law_16 : decode cL_law 16 = .ok (.iconst 0, 1) := dz_at dqL_law_p342a0 8 rfl
theorem dL_law_17 : decode cL_law 17 = .ok (.istore_n 3, 1) := dz_at dqL_law_p342a0 9 rfl
theorem dL_law_18 : decode cL_law 18 = .ok (.iload_n 3, 1) := dz_at dqL_law_p342a0 10 rfl
theorem dL_law_19 : decode cL_law 19 = .ok (.aload_n 0, 1) := dz_at dqL_law_p342a0 11 rfl
theorem dL_law_20 : decode cL_law 20 = .ok (.arraylength, 1) := dz_at dqL_law_p342a0 12 rfl
theorem dL_law_21 : decode cL_law 21 = .ok (.iconst 5, 1) := dz_at dqL_law_p342a0 13 rfl
set_option maxRecDepth 20000 in
theorem dqL_law_p342a1 : dz_rn 22 (cL_law.data.toList.drop 22) [(0, 26), (4, 5), (0, 4), (0, 3), (0, 10), (2, 0), (0, 29)] = some [(22, .isub, 1), (23, .if_icmp .gt 1231, 3), (26, .aload_n 0, 1), (27, .iload_n 3, 1), (28, .iaload, 1), (29, .bipush 31, 2), (31, .iand, 1)] := by decide +kernel
theorem dL_law_22 : decode cL_law 22 = .ok (.isub, 1) := dz_at dqL_law_p342a1 0 rfl
theorem dL_law_23 : decode cL_law 23 = .ok (.if_icmp .gt 1231, 3) := dz_at dqL_law_p342a1 1 rfl
theorem dL_law_26 : decode cL_law 26 = .ok (.aload_n 0, 1) := dz_at dqL_law_p342a1 2 rfl
theorem dL_law_27 : decode cL_law 27 = .ok (.iload_n 3, 1) := dz_at dqL_law_p342a1 3 rfl
theorem dL_law_28 : decode cL_law 28 = .ok (.iaload, 1) := dz_at dqL_law_p342a1 4 rfl
theorem dL_law_29 : decode cL_law 29 = .ok (.bipush 31, 2) := dz_at dqL_law_p342a1 5 rfl
theorem dL_law_31 : decode cL_law 31 = .ok (.iand, 1) := dz_at dqL_law_p342a1 6 rfl
theorem dL_law_32 : decode cL_law 32 = .ok (.tableswitch 1216 0 31 #[144, 177, 210, 243, 276, 309, 342, 375, 398, 431, 454, 477, 500, 563, 576, 589, 602, 635, 648, 721, 744, 787, 830, 863, 896, 929, 962, 1021, 1054, 1097, 1170, 1193], 144) := by decide +kernel
set_option maxRecDepth 20000 in
theorem dqL_law_p342a2 : dz_rn 176 (cL_law.data.toList.drop 176) [(0, 5), (0, 4), (0, 3), (0, 9), (0, 11), (0, 10), (0, 4), (0, 3), (0, 14), (0, 11), (0, 10), (3, 1), (0, 24), (0, 6)] = some [(176, .aload_n 1, 1), (177, .aload_n 0, 1), (178, .iload_n 3, 1), (179, .iconst 1, 1), (180, .iadd, 1), (181, .iaload, 1), (182, .aload_n 0, 1), (183, .iload_n 3, 1), (184, .iconst 2, 1), (185, .iadd, 1), (186, .iaload, 1), (187, .invokevirtual 13, 3), (190, .pop, 1), (191, .aload_n 2, 1)] := by decide +kernel
theorem dL_law_176 : decode cL_law 176 = .ok (.aload_n 1, 1) := dz_at dqL_law_p342a2 0 rfl
theorem dL_law_177 : decode cL_law 177 = .ok (.aload_n 0, 1) := dz_at dqL_law_p342a2 1 rfl
theorem dL_law_178 : decode cL_law 178 = .ok (.iload_n 3, 1) := dz_at dqL_law_p342a2 2 rfl
theorem dL_law_179 : decode cL_law 179 = .ok (.iconst 1, 1) := dz_at dqL_law_p342a2 3 rfl
theorem dL_law_180 : decode cL_law 180 = .ok (.iadd, 1) := dz_at dqL_law_p342a2 4 rfl
theorem dL_law_181 : decode cL_law 181 = .ok (.iaload, 1) := dz_at dqL_law_p342a2 5 rfl
theorem dL_law_182 : decode cL_law 182 = .ok (.aload_n 0, 1) := dz_at dqL_law_p342a2 6 rfl
theorem dL_law_183 : decode cL_law 183 = .ok (.iload_n 3, 1) := dz_at dqL_law_p342a2 7 rfl
theorem dL_law_184 : decode cL_law 184 = .ok (.iconst 2, 1) := dz_at dqL_law_p342a2 8 rfl
theorem dL_law_185 : decode cL_law 185 = .ok (.iadd, 1) := dz_at dqL_law_p342a2 9 rfl
theorem dL_law_186 : decode cL_law 186 = .ok (.iaload, 1) := dz_at dqL_law_p342a2 10 rfl
theorem dL_law_187 : decode cL_law 187 = .ok (.invokevirtual 13, 3) := dz_at dqL_law_p342a2 11 rfl
theorem dL_law_190 : decode cL_law 190 = .ok (.pop, 1) := dz_at dqL_law_p342a2 12 rfl
theorem dL_law_191 : decode cL_law 191 = .ok (.aload_n 2, 1) := dz_at dqL_law_p342a2 13 rfl
set_option maxRecDepth 20000 in
theorem dqL_law_p342a3 : dz_rn 192 (cL_law.data.toList.drop 192) [(0, 4), (0, 3), (0, 9), (0, 11), (0, 10), (0, 4), (0, 3), (0, 14), (0, 11), (0, 10), (3, 1), (0, 24), (4, 0), (0, 5)] = some [(192, .aload_n 0, 1), (193, .iload_n 3, 1), (194, .iconst 1, 1), (195, .iadd, 1), (196, .iaload, 1), (197, .aload_n 0, 1), (198, .iload_n 3, 1), (199, .iconst 2, 1), (200, .iadd, 1), (201, .iaload, 1), (202, .invokevirtual 17, 3), (205, .pop, 1), (206, .goto 1042, 3), (209, .aload_n 1, 1)] := by decide +kernel
theorem dL_law_192 : decode cL_law 192 = .ok (.aload_n 0, 1) := dz_at dqL_law_p342a3 0 rfl
theorem dL_law_193 : decode cL_law 193 = .ok (.iload_n 3, 1) := dz_at dqL_law_p342a3 1 rfl
theorem dL_law_194 : decode cL_law 194 = .ok (.iconst 1, 1) := dz_at dqL_law_p342a3 2 rfl
theorem dL_law_195 : decode cL_law 195 = .ok (.iadd, 1) := dz_at dqL_law_p342a3 3 rfl
theorem dL_law_196 : decode cL_law 196 = .ok (.iaload, 1) := dz_at dqL_law_p342a3 4 rfl
theorem dL_law_197 : decode cL_law 197 = .ok (.aload_n 0, 1) := dz_at dqL_law_p342a3 5 rfl
theorem dL_law_198 : decode cL_law 198 = .ok (.iload_n 3, 1) := dz_at dqL_law_p342a3 6 rfl
theorem dL_law_199 : decode cL_law 199 = .ok (.iconst 2, 1) := dz_at dqL_law_p342a3 7 rfl
theorem dL_law_200 : decode cL_law 200 = .ok (.iadd, 1) := dz_at dqL_law_p342a3 8 rfl
theorem dL_law_201 : decode cL_law 201 = .ok (.iaload, 1) := dz_at dqL_law_p342a3 9 rfl
theorem dL_law_202 : decode cL_law 202 = .ok (.invokevirtual 17, 3) := dz_at dqL_law_p342a3 10 rfl
theorem dL_law_205 : decode cL_law 205 = .ok (.pop, 1) := dz_at dqL_law_p342a3 11 rfl
theorem dL_law_206 : decode cL_law 206 = .ok (.goto 1042, 3) := dz_at dqL_law_p342a3 12 rfl
theorem dL_law_209 : decode cL_law 209 = .ok (.aload_n 1, 1) := dz_at dqL_law_p342a3 13 rfl
set_option maxRecDepth 20000 in
theorem dqL_law_p342a4 : dz_rn 210 (cL_law.data.toList.drop 210) [(0, 4), (0, 3), (0, 9), (0, 11), (0, 10), (0, 4), (0, 3), (0, 14), (0, 11), (0, 10), (3, 1), (0, 24), (0, 6), (0, 4)] = some [(210, .aload_n 0, 1), (211, .iload_n 3, 1), (212, .iconst 1, 1), (213, .iadd, 1), (214, .iaload, 1), (215, .aload_n 0, 1), (216, .iload_n 3, 1), (217, .iconst 2, 1), (218, .iadd, 1), (219, .iaload, 1), (220, .invokevirtual 18, 3), (223, .pop, 1), (224, .aload_n 2, 1), (225, .aload_n 0, 1)] := by decide +kernel
theorem dL_law_210 : decode cL_law 210 = .ok (.aload_n 0, 1) := dz_at dqL_law_p342a4 0 rfl
theorem dL_law_211 : decode cL_law 211 = .ok (.iload_n 3, 1) := dz_at dqL_law_p342a4 1 rfl
theorem dL_law_212 : decode cL_law 212 = .ok (.iconst 1, 1) := dz_at dqL_law_p342a4 2 rfl
theorem dL_law_213 : decode cL_law 213 = .ok (.iadd, 1) := dz_at dqL_law_p342a4 3 rfl
theorem dL_law_214 : decode cL_law 214 = .ok (.iaload, 1) := dz_at dqL_law_p342a4 4 rfl
theorem dL_law_215 : decode cL_law 215 = .ok (.aload_n 0, 1) := dz_at dqL_law_p342a4 5 rfl
theorem dL_law_216 : decode cL_law 216 = .ok (.iload_n 3, 1) := dz_at dqL_law_p342a4 6 rfl
theorem dL_law_217 : decode cL_law 217 = .ok (.iconst 2, 1) := dz_at dqL_law_p342a4 7 rfl
theorem dL_law_218 : decode cL_law 218 = .ok (.iadd, 1) := dz_at dqL_law_p342a4 8 rfl
theorem dL_law_219 : decode cL_law 219 = .ok (.iaload, 1) := dz_at dqL_law_p342a4 9 rfl
theorem dL_law_220 : decode cL_law 220 = .ok (.invokevirtual 18, 3) := dz_at dqL_law_p342a4 10 rfl
theorem dL_law_223 : decode cL_law 223 = .ok (.pop, 1) := dz_at dqL_law_p342a4 11 rfl
theorem dL_law_224 : decode cL_law 224 = .ok (.aload_n 2, 1) := dz_at dqL_law_p342a4 12 rfl
theorem dL_law_225 : decode cL_law 225 = .ok (.aload_n 0, 1) := dz_at dqL_law_p342a4 13 rfl
set_option maxRecDepth 20000 in
theorem dqL_law_p342a5 : dz_rn 226 (cL_law.data.toList.drop 226) [(0, 3), (0, 9), (0, 11), (0, 10), (0, 4), (0, 3), (0, 14), (0, 11), (0, 10), (3, 1)] = some [(226, .iload_n 3, 1), (227, .iconst 1, 1), (228, .iadd, 1), (229, .iaload, 1), (230, .aload_n 0, 1), (231, .iload_n 3, 1), (232, .iconst 2, 1), (233, .iadd, 1), (234, .iaload, 1), (235, .invokevirtual 21, 3)] := by decide +kernel
theorem dL_law_226 : decode cL_law 226 = .ok (.iload_n 3, 1) := dz_at dqL_law_p342a5 0 rfl
theorem dL_law_227 : decode cL_law 227 = .ok (.iconst 1, 1) := dz_at dqL_law_p342a5 1 rfl
theorem dL_law_228 : decode cL_law 228 = .ok (.iadd, 1) := dz_at dqL_law_p342a5 2 rfl
theorem dL_law_229 : decode cL_law 229 = .ok (.iaload, 1) := dz_at dqL_law_p342a5 3 rfl
theorem dL_law_230 : decode cL_law 230 = .ok (.aload_n 0, 1) := dz_at dqL_law_p342a5 4 rfl
theorem dL_law_231 : decode cL_law 231 = .ok (.iload_n 3, 1) := dz_at dqL_law_p342a5 5 rfl
theorem dL_law_232 : decode cL_law 232 = .ok (.iconst 2, 1) := dz_at dqL_law_p342a5 6 rfl
theorem dL_law_233 : decode cL_law 233 = .ok (.iadd, 1) := dz_at dqL_law_p342a5 7 rfl
theorem dL_law_234 : decode cL_law 234 = .ok (.iaload, 1) := dz_at dqL_law_p342a5 8 rfl
theorem dL_law_235 : decode cL_law 235 = .ok (.invokevirtual 21, 3) := dz_at dqL_law_p342a5 9 rfl
