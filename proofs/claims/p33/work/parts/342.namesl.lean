section
set_option maxRecDepth 20000 in
theorem dqL_law_p342a0 : dz_rn 0 (cL_law.data.toList.drop 0) [(3, 6), (0, 28), (3, 5), (0, 48), (3, 6), (0, 28), (3, 5), (0, 49), (0, 8), (0, 21), (0, 3), (0, 4), (0, 44), (0, 17)] = some [(0, .new 7, 3), (3, .dup, 1), (4, .invokespecial 9, 3), (7, .astore_n 1, 1), (8, .new 10, 3), (11, .dup, 1), (12, .invokespecial 12, 3), (15, .astore_n 2, 1), (16, .iconst 0, 1), (17, .istore_n 3, 1), (18, .iload_n 3, 1), (19, .aload_n 0, 1), (20, .arraylength, 1), (21, .iconst 5, 1)] := by decide +kernel
theorem dL_law_0 : decode cL_law 0 = .ok (.new 7, 3) := dz_at dqL_law_p342a0 0 rfl
theorem dL_law_3 : decode cL_law 3 = .ok (.dup, 1) := dz_at dqL_law_p342a0 1 rfl
theorem dL_law_4 : decode cL_law 4 = .ok (.invokespecial 9, 3) := dz_at dqL_law_p342a0 2 rfl
theorem dL_law_7 : decode cL_law 7 = .ok (.astore_n 1, 1) := dz_at dqL_law_p342a0 3 rfl
theorem dL_law_8 : decode cL_law 8 = .ok (.new 10, 3) := dz_at dqL_law_p342a0 4 rfl
theorem dL_law_11 : decode cL_law 11 = .ok (.dup, 1) := dz_at dqL_law_p342a0 5 rfl
theorem dL_law_12 : decode cL_law 12 = .ok (.invokespecial 12, 3) := dz_at dqL_law_p342a0 6 rfl
theorem dL_law_15 : decode cL_law 15 = .ok (.astore_n 2, 1) := dz_at dqL_law_p342a0 7 rfl
theorem dL_law_16 : decode cL_law 16 = .ok (.iconst 0, 1) := dz_at dqL_law_p342a0 8 rfl
theorem dL_law_17 : decode cL_law 17 = .ok (.istore_n 3, 1) := dz_at dqL_law_p342a0 9 rfl
theorem dL_law_18 : decode cL_law 18 = .ok (.iload_n 3, 1) := dz_at dqL_law_p342a0 10 rfl
theorem dL_law_19 : decode cL_law 19 = .ok (.aload_n 0, 1) := dz_at dqL_law_p342a0 11 rfl
theorem dL_law_20 : decode cL_law 20 = .ok (.arraylength, 1) := dz_at dqL_law_p342a0 12 rfl
theorem dL_law_21 : decode cL_law 21 = .ok (.iconst 5, 1) := dz_at dqL_law_p342a0 13 rfl
set_option maxRecDepth 20000 in
theorem dqL_law_p342a1 : dz_rn 22 (cL_law.data.toList.drop 22) [(0, 26), (4, 5), (0, 4), (0, 3), (0, 10), (2, 0), (0, 29)] = some [(22, .isub, 1), (23, .if_icmp .gt 1231, 3), (26, .aload_n 0, 1), (27, .iload_n 3, 1), (28, .iaload, 1), (29, .bipush 31, 2), (31, .iand, 1)] := by decide +kernel
theorem dL_law_22 : decode cL_law 22 = .ok (.isub, 1) := dz_at dqL_law_p342a1 0 rfl
theorem dL_law_23 : decode cL_law 23 = .ok (.if_icmp .gt 1231, 3) := dz_at dqL_law_p342a1 1 rfl
theorem dL_law_26 : decode cL_law 26 = .ok (.aload_n 0, 1) := dz_at dqL_law_p342a1 2 rfl
theorem dL_law_27 : decode cL_law 27 = .ok (.iload_n 3, 1) := dz_at dqL_law_p342a1 3 rfl
theorem dL_law_28 : decode cL_law 28 = .ok (.iaload, 1) := dz_at dqL_law_p342a1 4 rfl
theorem dL_law_29 : decode cL_law 29 = .ok (.bipush 31, 2) := dz_at dqL_law_p342a1 5 rfl
theorem dL_law_31 : decode cL_law 31 = .ok (.iand, 1) := dz_at dqL_law_p342a1 6 rfl
theorem dL_law_32 : decode cL_law 32 = .ok (.tableswitch 1216 0 31 #[144, 177, 210, 243, 276, 309, 342, 375, 398, 431, 454, 477, 500, 563, 576, 589, 602, 635, 648, 721, 744, 787, 830, 863, 896, 929, 962, 1021, 1054, 1097, 1170, 1193], 144) := by decide +kernel
set_option maxRecDepth 20000 in
theorem dqL_law_p342a2 : dz_rn 176 (cL_law.data.toList.drop 176) [(0, 5), (0, 4), (0, 3), (0, 9), (0, 11), (0, 10), (0, 4), (0, 3), (0, 14), (0, 11), (0, 10), (3, 1), (0, 24), (0, 6)] = some [(176, .aload_n 1, 1), (177, .aload_n 0, 1), (178, .iload_n 3, 1), (179, .iconst 1, 1), (180, .iadd, 1), (181, .iaload, 1), (182, .aload_n 0, 1), (183, .iload_n 3, 1), (184, .iconst 2, 1), (185, .iadd, 1), (186, .iaload, 1), (187, .invokevirtual 13, 3), (190, .pop, 1), (191, .aload_n 2, 1)] := by decide +kernel
theorem dL_law_176 : decode cL_law 176 = .ok (.aload_n 1, 1) := dz_at dqL_law_p342a2 0 rfl
theorem dL_law_177 : decode cL_law 177 = .ok (.aload_n 0, 1) := dz_at dqL_law_p342a2 1 rfl
theorem dL_law_178 : decode cL_law 178 = .ok (.iload_n 3, 1) := dz_at dqL_law_p342a2 2 rfl
theorem dL_law_179 : decode cL_law 179 = .ok (.iconst 1, 1) := dz_at dqL_law_p342a2 3 rfl
theorem dL_law_180 : decode cL_law 180 = .ok (.iadd, 1) := dz_at dqL_law_p342a2 4 rfl
theorem dL_law_181 : decode cL_law 181 = .ok (.iaload, 1) := dz_at dqL_law_p342a2 5 rfl
theorem dL_law_182 : decode cL_law 182 = .ok (.aload_n 0, 1) := dz_at dqL_law_p342a2 6 rfl
theorem dL_law_183 : decode cL_law 183 = .ok (.iload_n 3, 1) := dz_at dqL_law_p342a2 7 rfl
theorem dL_law_184 : decode cL_law 184 = .ok (.iconst 2, 1) := dz_at dqL_law_p342a2 8 rfl
theorem dL_law_185 : decode cL_law 185 = .ok (.iadd, 1) := dz_at dqL_law_p342a2 9 rfl
theorem dL_law_186 : decode cL_law 186 = .ok (.iaload, 1) := dz_at dqL_law_p342a2 10 rfl
theorem dL_law_187 : decode cL_law 187 = .ok (.invokevirtual 13, 3) := dz_at dqL_law_p342a2 11 rfl
theorem dL_law_190 : decode cL_law 190 = .ok (.pop, 1) := dz_at dqL_law_p342a2 12 rfl
theorem dL_law_191 : decode cL_law 191 = .ok (.aload_n 2, 1) := dz_at dqL_law_p342a2 13 rfl
set_option maxRecDepth 20000 in
theorem dqL_law_p342a3 : dz_rn 192 (cL_law.data.toList.drop 192) [(0, 4), (0, 3), (0, 9), (0, 11), (0, 10), (0, 4), (0, 3), (0, 14), (0, 11), (0, 10), (3, 1), (0, 24), (4, 0), (0, 5)] = some [(192, .aload_n 0, 1), (193, .iload_n 3, 1), (194, .iconst 1, 1), (195, .iadd, 1), (196, .iaload, 1), (197, .aload_n 0, 1), (198, .iload_n 3, 1), (199, .iconst 2, 1), (200, .iadd, 1), (201, .iaload, 1), (202, .invokevirtual 17, 3), (205, .pop, 1), (206, .goto 1042, 3), (209, .aload_n 1, 1)] := by decide +kernel
theorem dL_law_192 : decode cL_law 192 = .ok (.aload_n 0, 1) := dz_at dqL_law_p342a3 0 rfl
theorem dL_law_193 : decode cL_law 193 = .ok (.iload_n 3, 1) := dz_at dqL_law_p342a3 1 rfl
theorem dL_law_194 : decode cL_law 194 = .ok (.iconst 1, 1) := dz_at dqL_law_p342a3 2 rfl
theorem dL_law_195 : decode cL_law 195 = .ok (.iadd, 1) := dz_at dqL_law_p342a3 3 rfl
theorem dL_law_196 : decode cL_law 196 = .ok (.iaload, 1) := dz_at dqL_law_p342a3 4 rfl
theorem dL_law_197 : decode cL_law 197 = .ok (.aload_n 0, 1) := dz_at dqL_law_p342a3 5 rfl
theorem dL_law_198 : decode cL_law 198 = .ok (.iload_n 3, 1) := dz_at dqL_law_p342a3 6 rfl
theorem dL_law_199 : decode cL_law 199 = .ok (.iconst 2, 1) := dz_at dqL_law_p342a3 7 rfl
theorem dL_law_200 : decode cL_law 200 = .ok (.iadd, 1) := dz_at dqL_law_p342a3 8 rfl
theorem dL_law_201 : decode cL_law 201 = .ok (.iaload, 1) := dz_at dqL_law_p342a3 9 rfl
theorem dL_law_202 : decode cL_law 202 = .ok (.invokevirtual 17, 3) := dz_at dqL_law_p342a3 10 rfl
theorem dL_law_205 : decode cL_law 205 = .ok (.pop, 1) := dz_at dqL_law_p342a3 11 rfl
theorem dL_law_206 : decode cL_law 206 = .ok (.goto 1042, 3) := dz_at dqL_law_p342a3 12 rfl
theorem dL_law_209 : decode cL_law 209 = .ok (.aload_n 1, 1) := dz_at dqL_law_p342a3 13 rfl
set_option maxRecDepth 20000 in
theorem dqL_law_p342a4 : dz_rn 210 (cL_law.data.toList.drop 210) [(0, 4), (0, 3), (0, 9), (0, 11), (0, 10), (0, 4), (0, 3), (0, 14), (0, 11), (0, 10), (3, 1), (0, 24), (0, 6), (0, 4)] = some [(210, .aload_n 0, 1), (211, .iload_n 3, 1), (212, .iconst 1, 1), (213, .iadd, 1), (214, .iaload, 1), (215, .aload_n 0, 1), (216, .iload_n 3, 1), (217, .iconst 2, 1), (218, .iadd, 1), (219, .iaload, 1), (220, .invokevirtual 18, 3), (223, .pop, 1), (224, .aload_n 2, 1), (225, .aload_n 0, 1)] := by decide +kernel
theorem dL_law_210 : decode cL_law 210 = .ok (.aload_n 0, 1) := dz_at dqL_law_p342a4 0 rfl
theorem dL_law_211 : decode cL_law 211 = .ok (.iload_n 3, 1) := dz_at dqL_law_p342a4 1 rfl
theorem dL_law_212 : decode cL_law 212 = .ok (.iconst 1, 1) := dz_at dqL_law_p342a4 2 rfl
theorem dL_law_213 : decode cL_law 213 = .ok (.iadd, 1) := dz_at dqL_law_p342a4 3 rfl
theorem dL_law_214 : decode cL_law 214 = .ok (.iaload, 1) := dz_at dqL_law_p342a4 4 rfl
theorem dL_law_215 : decode cL_law 215 = .ok (.aload_n 0, 1) := dz_at dqL_law_p342a4 5 rfl
theorem dL_law_216 : decode cL_law 216 = .ok (.iload_n 3, 1) := dz_at dqL_law_p342a4 6 rfl
theorem dL_law_217 : decode cL_law 217 = .ok (.iconst 2, 1) := dz_at dqL_law_p342a4 7 rfl
theorem dL_law_218 : decode cL_law 218 = .ok (.iadd, 1) := dz_at dqL_law_p342a4 8 rfl
theorem dL_law_219 : decode cL_law 219 = .ok (.iaload, 1) := dz_at dqL_law_p342a4 9 rfl
theorem dL_law_220 : decode cL_law 220 = .ok (.invokevirtual 18, 3) := dz_at dqL_law_p342a4 10 rfl
theorem dL_law_223 : decode cL_law 223 = .ok (.pop, 1) := dz_at dqL_law_p342a4 11 rfl
theorem dL_law_224 : decode cL_law 224 = .ok (.aload_n 2, 1) := dz_at dqL_law_p342a4 12 rfl
theorem dL_law_225 : decode cL_law 225 = .ok (.aload_n 0, 1) := dz_at dqL_law_p342a4 13 rfl
set_option maxRecDepth 20000 in
theorem dqL_law_p342a5 : dz_rn 226 (cL_law.data.toList.drop 226) [(0, 3), (0, 9), (0, 11), (0, 10), (0, 4), (0, 3), (0, 14), (0, 11), (0, 10), (3, 1)] = some [(226, .iload_n 3, 1), (227, .iconst 1, 1), (228, .iadd, 1), (229, .iaload, 1), (230, .aload_n 0, 1), (231, .iload_n 3, 1), (232, .iconst 2, 1), (233, .iadd, 1), (234, .iaload, 1), (235, .invokevirtual 21, 3)] := by decide +kernel
theorem dL_law_226 : decode cL_law 226 = .ok (.iload_n 3, 1) := dz_at dqL_law_p342a5 0 rfl
theorem dL_law_227 : decode cL_law 227 = .ok (.iconst 1, 1) := dz_at dqL_law_p342a5 1 rfl
theorem dL_law_228 : decode cL_law 228 = .ok (.iadd, 1) := dz_at dqL_law_p342a5 2 rfl
theorem dL_law_229 : decode cL_law 229 = .ok (.iaload, 1) := dz_at dqL_law_p342a5 3 rfl
theorem dL_law_230 : decode cL_law 230 = .ok (.aload_n 0, 1) := dz_at dqL_law_p342a5 4 rfl
theorem dL_law_231 : decode cL_law 231 = .ok (.iload_n 3, 1) := dz_at dqL_law_p342a5 5 rfl
theorem dL_law_232 : decode cL_law 232 = .ok (.iconst 2, 1) := dz_at dqL_law_p342a5 6 rfl
theorem dL_law_233 : decode cL_law 233 = .ok (.iadd, 1) := dz_at dqL_law_p342a5 7 rfl
theorem dL_law_234 : decode cL_law 234 = .ok (.iaload, 1) := dz_at dqL_law_p342a5 8 rfl
theorem dL_law_235 : decode cL_law 235 = .ok (.invokevirtual 21, 3) := dz_at dqL_law_p342a5 9 rfl
end
section
set_option maxRecDepth 20000 in
theorem dqL_law_p342b0 : dz_rn 238 (cL_law.data.toList.drop 238) [(0, 24), (4, 0), (0, 5), (0, 4), (0, 3), (0, 9), (0, 11), (0, 10), (0, 4), (0, 3), (0, 14), (0, 11), (0, 10), (3, 1)] = some [(238, .pop, 1), (239, .goto 1009, 3), (242, .aload_n 1, 1), (243, .aload_n 0, 1), (244, .iload_n 3, 1), (245, .iconst 1, 1), (246, .iadd, 1), (247, .iaload, 1), (248, .aload_n 0, 1), (249, .iload_n 3, 1), (250, .iconst 2, 1), (251, .iadd, 1), (252, .iaload, 1), (253, .invokevirtual 22, 3)] := by decide +kernel
theorem dL_law_238 : decode cL_law 238 = .ok (.pop, 1) := dz_at dqL_law_p342b0 0 rfl
theorem dL_law_239 : decode cL_law 239 = .ok (.goto 1009, 3) := dz_at dqL_law_p342b0 1 rfl
theorem dL_law_242 : decode cL_law 242 = .ok (.aload_n 1, 1) := dz_at dqL_law_p342b0 2 rfl
theorem dL_law_243 : decode cL_law 243 = .ok (.aload_n 0, 1) := dz_at dqL_law_p342b0 3 rfl
theorem dL_law_244 : decode cL_law 244 = .ok (.iload_n 3, 1) := dz_at dqL_law_p342b0 4 rfl
theorem dL_law_245 : decode cL_law 245 = .ok (.iconst 1, 1) := dz_at dqL_law_p342b0 5 rfl
theorem dL_law_246 : decode cL_law 246 = .ok (.iadd, 1) := dz_at dqL_law_p342b0 6 rfl
theorem dL_law_247 : decode cL_law 247 = .ok (.iaload, 1) := dz_at dqL_law_p342b0 7 rfl
theorem dL_law_248 : decode cL_law 248 = .ok (.aload_n 0, 1) := dz_at dqL_law_p342b0 8 rfl
theorem dL_law_249 : decode cL_law 249 = .ok (.iload_n 3, 1) := dz_at dqL_law_p342b0 9 rfl
theorem dL_law_250 : decode cL_law 250 = .ok (.iconst 2, 1) := dz_at dqL_law_p342b0 10 rfl
theorem dL_law_251 : decode cL_law 251 = .ok (.iadd, 1) := dz_at dqL_law_p342b0 11 rfl
theorem dL_law_252 : decode cL_law 252 = .ok (.iaload, 1) := dz_at dqL_law_p342b0 12 rfl
theorem dL_law_253 : decode cL_law 253 = .ok (.invokevirtual 22, 3) := dz_at dqL_law_p342b0 13 rfl
set_option maxRecDepth 20000 in
theorem dqL_law_p342b1 : dz_rn 256 (cL_law.data.toList.drop 256) [(0, 24), (0, 6), (0, 4), (0, 3), (0, 9), (0, 11), (0, 10), (0, 4), (0, 3), (0, 14), (0, 11), (0, 10), (3, 1), (0, 24)] = some [(256, .pop, 1), (257, .aload_n 2, 1), (258, .aload_n 0, 1), (259, .iload_n 3, 1), (260, .iconst 1, 1), (261, .iadd, 1), (262, .iaload, 1), (263, .aload_n 0, 1), (264, .iload_n 3, 1), (265, .iconst 2, 1), (266, .iadd, 1), (267, .iaload, 1), (268, .invokevirtual 25, 3), (271, .pop, 1)] := by decide +kernel
theorem dL_law_256 : decode cL_law 256 = .ok (.pop, 1) := dz_at dqL_law_p342b1 0 rfl
theorem dL_law_257 : decode cL_law 257 = .ok (.aload_n 2, 1) := dz_at dqL_law_p342b1 1 rfl
theorem dL_law_258 : decode cL_law 258 = .ok (.aload_n 0, 1) := dz_at dqL_law_p342b1 2 rfl
theorem dL_law_259 : decode cL_law 259 = .ok (.iload_n 3, 1) := dz_at dqL_law_p342b1 3 rfl
theorem dL_law_260 : decode cL_law 260 = .ok (.iconst 1, 1) := dz_at dqL_law_p342b1 4 rfl
theorem dL_law_261 : decode cL_law 261 = .ok (.iadd, 1) := dz_at dqL_law_p342b1 5 rfl
theorem dL_law_262 : decode cL_law 262 = .ok (.iaload, 1) := dz_at dqL_law_p342b1 6 rfl
theorem dL_law_263 : decode cL_law 263 = .ok (.aload_n 0, 1) := dz_at dqL_law_p342b1 7 rfl
theorem dL_law_264 : decode cL_law 264 = .ok (.iload_n 3, 1) := dz_at dqL_law_p342b1 8 rfl
theorem dL_law_265 : decode cL_law 265 = .ok (.iconst 2, 1) := dz_at dqL_law_p342b1 9 rfl
theorem dL_law_266 : decode cL_law 266 = .ok (.iadd, 1) := dz_at dqL_law_p342b1 10 rfl
theorem dL_law_267 : decode cL_law 267 = .ok (.iaload, 1) := dz_at dqL_law_p342b1 11 rfl
theorem dL_law_268 : decode cL_law 268 = .ok (.invokevirtual 25, 3) := dz_at dqL_law_p342b1 12 rfl
theorem dL_law_271 : decode cL_law 271 = .ok (.pop, 1) := dz_at dqL_law_p342b1 13 rfl
set_option maxRecDepth 20000 in
theorem dqL_law_p342b2 : dz_rn 272 (cL_law.data.toList.drop 272) [(4, 0), (0, 5), (0, 4), (0, 3), (0, 9), (0, 11), (0, 10), (0, 4), (0, 3), (0, 14), (0, 11), (0, 10), (3, 1), (0, 24)] = some [(272, .goto 976, 3), (275, .aload_n 1, 1), (276, .aload_n 0, 1), (277, .iload_n 3, 1), (278, .iconst 1, 1), (279, .iadd, 1), (280, .iaload, 1), (281, .aload_n 0, 1), (282, .iload_n 3, 1), (283, .iconst 2, 1), (284, .iadd, 1), (285, .iaload, 1), (286, .invokevirtual 26, 3), (289, .pop, 1)] := by decide +kernel
theorem dL_law_272 : decode cL_law 272 = .ok (.goto 976, 3) := dz_at dqL_law_p342b2 0 rfl
theorem dL_law_275 : decode cL_law 275 = .ok (.aload_n 1, 1) := dz_at dqL_law_p342b2 1 rfl
theorem dL_law_276 : decode cL_law 276 = .ok (.aload_n 0, 1) := dz_at dqL_law_p342b2 2 rfl
theorem dL_law_277 : decode cL_law 277 = .ok (.iload_n 3, 1) := dz_at dqL_law_p342b2 3 rfl
theorem dL_law_278 : decode cL_law 278 = .ok (.iconst 1, 1) := dz_at dqL_law_p342b2 4 rfl
theorem dL_law_279 : decode cL_law 279 = .ok (.iadd, 1) := dz_at dqL_law_p342b2 5 rfl
theorem dL_law_280 : decode cL_law 280 = .ok (.iaload, 1) := dz_at dqL_law_p342b2 6 rfl
theorem dL_law_281 : decode cL_law 281 = .ok (.aload_n 0, 1) := dz_at dqL_law_p342b2 7 rfl
theorem dL_law_282 : decode cL_law 282 = .ok (.iload_n 3, 1) := dz_at dqL_law_p342b2 8 rfl
theorem dL_law_283 : decode cL_law 283 = .ok (.iconst 2, 1) := dz_at dqL_law_p342b2 9 rfl
theorem dL_law_284 : decode cL_law 284 = .ok (.iadd, 1) := dz_at dqL_law_p342b2 10 rfl
theorem dL_law_285 : decode cL_law 285 = .ok (.iaload, 1) := dz_at dqL_law_p342b2 11 rfl
theorem dL_law_286 : decode cL_law 286 = .ok (.invokevirtual 26, 3) := dz_at dqL_law_p342b2 12 rfl
theorem dL_law_289 : decode cL_law 289 = .ok (.pop, 1) := dz_at dqL_law_p342b2 13 rfl
set_option maxRecDepth 20000 in
theorem dqL_law_p342b3 : dz_rn 290 (cL_law.data.toList.drop 290) [(0, 6), (0, 4), (0, 3), (0, 9), (0, 11), (0, 10), (0, 4), (0, 3), (0, 14), (0, 11), (0, 10), (3, 1), (0, 24), (4, 0)] = some [(290, .aload_n 2, 1), (291, .aload_n 0, 1), (292, .iload_n 3, 1), (293, .iconst 1, 1), (294, .iadd, 1), (295, .iaload, 1), (296, .aload_n 0, 1), (297, .iload_n 3, 1), (298, .iconst 2, 1), (299, .iadd, 1), (300, .iaload, 1), (301, .invokevirtual 29, 3), (304, .pop, 1), (305, .goto 943, 3)] := by decide +kernel
theorem dL_law_290 : decode cL_law 290 = .ok (.aload_n 2, 1) := dz_at dqL_law_p342b3 0 rfl
theorem dL_law_291 : decode cL_law 291 = .ok (.aload_n 0, 1) := dz_at dqL_law_p342b3 1 rfl
theorem dL_law_292 : decode cL_law 292 = .ok (.iload_n 3, 1) := dz_at dqL_law_p342b3 2 rfl
theorem dL_law_293 : decode cL_law 293 = .ok (.iconst 1, 1) := dz_at dqL_law_p342b3 3 rfl
theorem dL_law_294 : decode cL_law 294 = .ok (.iadd, 1) := dz_at dqL_law_p342b3 4 rfl
theorem dL_law_295 : decode cL_law 295 = .ok (.iaload, 1) := dz_at dqL_law_p342b3 5 rfl
theorem dL_law_296 : decode cL_law 296 = .ok (.aload_n 0, 1) := dz_at dqL_law_p342b3 6 rfl
theorem dL_law_297 : decode cL_law 297 = .ok (.iload_n 3, 1) := dz_at dqL_law_p342b3 7 rfl
theorem dL_law_298 : decode cL_law 298 = .ok (.iconst 2, 1) := dz_at dqL_law_p342b3 8 rfl
theorem dL_law_299 : decode cL_law 299 = .ok (.iadd, 1) := dz_at dqL_law_p342b3 9 rfl
theorem dL_law_300 : decode cL_law 300 = .ok (.iaload, 1) := dz_at dqL_law_p342b3 10 rfl
theorem dL_law_301 : decode cL_law 301 = .ok (.invokevirtual 29, 3) := dz_at dqL_law_p342b3 11 rfl
theorem dL_law_304 : decode cL_law 304 = .ok (.pop, 1) := dz_at dqL_law_p342b3 12 rfl
theorem dL_law_305 : decode cL_law 305 = .ok (.goto 943, 3) := dz_at dqL_law_p342b3 13 rfl
set_option maxRecDepth 20000 in
theorem dqL_law_p342b4 : dz_rn 308 (cL_law.data.toList.drop 308) [(0, 5), (0, 4), (0, 3), (0, 9), (0, 11), (0, 10), (0, 4), (0, 3), (0, 14), (0, 11), (0, 10), (3, 1), (0, 24), (0, 6)] = some [(308, .aload_n 1, 1), (309, .aload_n 0, 1), (310, .iload_n 3, 1), (311, .iconst 1, 1), (312, .iadd, 1), (313, .iaload, 1), (314, .aload_n 0, 1), (315, .iload_n 3, 1), (316, .iconst 2, 1), (317, .iadd, 1), (318, .iaload, 1), (319, .invokevirtual 30, 3), (322, .pop, 1), (323, .aload_n 2, 1)] := by decide +kernel
theorem dL_law_308 : decode cL_law 308 = .ok (.aload_n 1, 1) := dz_at dqL_law_p342b4 0 rfl
theorem dL_law_309 : decode cL_law 309 = .ok (.aload_n 0, 1) := dz_at dqL_law_p342b4 1 rfl
theorem dL_law_310 : decode cL_law 310 = .ok (.iload_n 3, 1) := dz_at dqL_law_p342b4 2 rfl
theorem dL_law_311 : decode cL_law 311 = .ok (.iconst 1, 1) := dz_at dqL_law_p342b4 3 rfl
theorem dL_law_312 : decode cL_law 312 = .ok (.iadd, 1) := dz_at dqL_law_p342b4 4 rfl
theorem dL_law_313 : decode cL_law 313 = .ok (.iaload, 1) := dz_at dqL_law_p342b4 5 rfl
theorem dL_law_314 : decode cL_law 314 = .ok (.aload_n 0, 1) := dz_at dqL_law_p342b4 6 rfl
theorem dL_law_315 : decode cL_law 315 = .ok (.iload_n 3, 1) := dz_at dqL_law_p342b4 7 rfl
theorem dL_law_316 : decode cL_law 316 = .ok (.iconst 2, 1) := dz_at dqL_law_p342b4 8 rfl
theorem dL_law_317 : decode cL_law 317 = .ok (.iadd, 1) := dz_at dqL_law_p342b4 9 rfl
theorem dL_law_318 : decode cL_law 318 = .ok (.iaload, 1) := dz_at dqL_law_p342b4 10 rfl
theorem dL_law_319 : decode cL_law 319 = .ok (.invokevirtual 30, 3) := dz_at dqL_law_p342b4 11 rfl
theorem dL_law_322 : decode cL_law 322 = .ok (.pop, 1) := dz_at dqL_law_p342b4 12 rfl
theorem dL_law_323 : decode cL_law 323 = .ok (.aload_n 2, 1) := dz_at dqL_law_p342b4 13 rfl
set_option maxRecDepth 20000 in
theorem dqL_law_p342b5 : dz_rn 324 (cL_law.data.toList.drop 324) [(0, 4), (0, 3), (0, 9), (0, 11)] = some [(324, .aload_n 0, 1), (325, .iload_n 3, 1), (326, .iconst 1, 1), (327, .iadd, 1)] := by decide +kernel
theorem dL_law_324 : decode cL_law 324 = .ok (.aload_n 0, 1) := dz_at dqL_law_p342b5 0 rfl
theorem dL_law_325 : decode cL_law 325 = .ok (.iload_n 3, 1) := dz_at dqL_law_p342b5 1 rfl
theorem dL_law_326 : decode cL_law 326 = .ok (.iconst 1, 1) := dz_at dqL_law_p342b5 2 rfl
theorem dL_law_327 : decode cL_law 327 = .ok (.iadd, 1) := dz_at dqL_law_p342b5 3 rfl
end
section
set_option maxRecDepth 20000 in
theorem dqL_law_p342c0 : dz_rn 328 (cL_law.data.toList.drop 328) [(0, 10), (0, 4), (0, 3), (0, 14), (0, 11), (0, 10), (3, 1), (0, 24), (4, 0), (0, 5), (0, 4), (0, 3), (0, 9), (0, 11)] = some [(328, .iaload, 1), (329, .aload_n 0, 1), (330, .iload_n 3, 1), (331, .iconst 2, 1), (332, .iadd, 1), (333, .iaload, 1), (334, .invokevirtual 33, 3), (337, .pop, 1), (338, .goto 910, 3), (341, .aload_n 1, 1), (342, .aload_n 0, 1), (343, .iload_n 3, 1), (344, .iconst 1, 1), (345, .iadd, 1)] := by decide +kernel
theorem dL_law_328 : decode cL_law 328 = .ok (.iaload, 1) := dz_at dqL_law_p342c0 0 rfl
theorem dL_law_329 : decode cL_law 329 = .ok (.aload_n 0, 1) := dz_at dqL_law_p342c0 1 rfl
theorem dL_law_330 : decode cL_law 330 = .ok (.iload_n 3, 1) := dz_at dqL_law_p342c0 2 rfl
theorem dL_law_331 : decode cL_law 331 = .ok (.iconst 2, 1) := dz_at dqL_law_p342c0 3 rfl
theorem dL_law_332 : decode cL_law 332 = .ok (.iadd, 1) := dz_at dqL_law_p342c0 4 rfl
theorem dL_law_333 : decode cL_law 333 = .ok (.iaload, 1) := dz_at dqL_law_p342c0 5 rfl
theorem dL_law_334 : decode cL_law 334 = .ok (.invokevirtual 33, 3) := dz_at dqL_law_p342c0 6 rfl
theorem dL_law_337 : decode cL_law 337 = .ok (.pop, 1) := dz_at dqL_law_p342c0 7 rfl
theorem dL_law_338 : decode cL_law 338 = .ok (.goto 910, 3) := dz_at dqL_law_p342c0 8 rfl
theorem dL_law_341 : decode cL_law 341 = .ok (.aload_n 1, 1) := dz_at dqL_law_p342c0 9 rfl
theorem dL_law_342 : decode cL_law 342 = .ok (.aload_n 0, 1) := dz_at dqL_law_p342c0 10 rfl
theorem dL_law_343 : decode cL_law 343 = .ok (.iload_n 3, 1) := dz_at dqL_law_p342c0 11 rfl
theorem dL_law_344 : decode cL_law 344 = .ok (.iconst 1, 1) := dz_at dqL_law_p342c0 12 rfl
theorem dL_law_345 : decode cL_law 345 = .ok (.iadd, 1) := dz_at dqL_law_p342c0 13 rfl
set_option maxRecDepth 20000 in
theorem dqL_law_p342c1 : dz_rn 346 (cL_law.data.toList.drop 346) [(0, 10), (0, 4), (0, 3), (0, 14), (0, 11), (0, 10), (3, 1), (0, 24), (0, 6), (0, 4), (0, 3), (0, 9), (0, 11), (0, 10)] = some [(346, .iaload, 1), (347, .aload_n 0, 1), (348, .iload_n 3, 1), (349, .iconst 2, 1), (350, .iadd, 1), (351, .iaload, 1), (352, .invokevirtual 34, 3), (355, .pop, 1), (356, .aload_n 2, 1), (357, .aload_n 0, 1), (358, .iload_n 3, 1), (359, .iconst 1, 1), (360, .iadd, 1), (361, .iaload, 1)] := by decide +kernel
theorem dL_law_346 : decode cL_law 346 = .ok (.iaload, 1) := dz_at dqL_law_p342c1 0 rfl
theorem dL_law_347 : decode cL_law 347 = .ok (.aload_n 0, 1) := dz_at dqL_law_p342c1 1 rfl
theorem dL_law_348 : decode cL_law 348 = .ok (.iload_n 3, 1) := dz_at dqL_law_p342c1 2 rfl
theorem dL_law_349 : decode cL_law 349 = .ok (.iconst 2, 1) := dz_at dqL_law_p342c1 3 rfl
theorem dL_law_350 : decode cL_law 350 = .ok (.iadd, 1) := dz_at dqL_law_p342c1 4 rfl
theorem dL_law_351 : decode cL_law 351 = .ok (.iaload, 1) := dz_at dqL_law_p342c1 5 rfl
theorem dL_law_352 : decode cL_law 352 = .ok (.invokevirtual 34, 3) := dz_at dqL_law_p342c1 6 rfl
theorem dL_law_355 : decode cL_law 355 = .ok (.pop, 1) := dz_at dqL_law_p342c1 7 rfl
theorem dL_law_356 : decode cL_law 356 = .ok (.aload_n 2, 1) := dz_at dqL_law_p342c1 8 rfl
theorem dL_law_357 : decode cL_law 357 = .ok (.aload_n 0, 1) := dz_at dqL_law_p342c1 9 rfl
theorem dL_law_358 : decode cL_law 358 = .ok (.iload_n 3, 1) := dz_at dqL_law_p342c1 10 rfl
theorem dL_law_359 : decode cL_law 359 = .ok (.iconst 1, 1) := dz_at dqL_law_p342c1 11 rfl
theorem dL_law_360 : decode cL_law 360 = .ok (.iadd, 1) := dz_at dqL_law_p342c1 12 rfl
theorem dL_law_361 : decode cL_law 361 = .ok (.iaload, 1) := dz_at dqL_law_p342c1 13 rfl
set_option maxRecDepth 20000 in
theorem dqL_law_p342c2 : dz_rn 362 (cL_law.data.toList.drop 362) [(0, 4), (0, 3), (0, 14), (0, 11), (0, 10), (3, 1), (0, 24), (4, 0), (0, 5), (0, 4), (0, 3), (0, 9), (0, 11), (0, 10)] = some [(362, .aload_n 0, 1), (363, .iload_n 3, 1), (364, .iconst 2, 1), (365, .iadd, 1), (366, .iaload, 1), (367, .invokevirtual 37, 3), (370, .pop, 1), (371, .goto 877, 3), (374, .aload_n 1, 1), (375, .aload_n 0, 1), (376, .iload_n 3, 1), (377, .iconst 1, 1), (378, .iadd, 1), (379, .iaload, 1)] := by decide +kernel
theorem dL_law_362 : decode cL_law 362 = .ok (.aload_n 0, 1) := dz_at dqL_law_p342c2 0 rfl
theorem dL_law_363 : decode cL_law 363 = .ok (.iload_n 3, 1) := dz_at dqL_law_p342c2 1 rfl
theorem dL_law_364 : decode cL_law 364 = .ok (.iconst 2, 1) := dz_at dqL_law_p342c2 2 rfl
theorem dL_law_365 : decode cL_law 365 = .ok (.iadd, 1) := dz_at dqL_law_p342c2 3 rfl
theorem dL_law_366 : decode cL_law 366 = .ok (.iaload, 1) := dz_at dqL_law_p342c2 4 rfl
theorem dL_law_367 : decode cL_law 367 = .ok (.invokevirtual 37, 3) := dz_at dqL_law_p342c2 5 rfl
theorem dL_law_370 : decode cL_law 370 = .ok (.pop, 1) := dz_at dqL_law_p342c2 6 rfl
theorem dL_law_371 : decode cL_law 371 = .ok (.goto 877, 3) := dz_at dqL_law_p342c2 7 rfl
theorem dL_law_374 : decode cL_law 374 = .ok (.aload_n 1, 1) := dz_at dqL_law_p342c2 8 rfl
theorem dL_law_375 : decode cL_law 375 = .ok (.aload_n 0, 1) := dz_at dqL_law_p342c2 9 rfl
theorem dL_law_376 : decode cL_law 376 = .ok (.iload_n 3, 1) := dz_at dqL_law_p342c2 10 rfl
theorem dL_law_377 : decode cL_law 377 = .ok (.iconst 1, 1) := dz_at dqL_law_p342c2 11 rfl
theorem dL_law_378 : decode cL_law 378 = .ok (.iadd, 1) := dz_at dqL_law_p342c2 12 rfl
theorem dL_law_379 : decode cL_law 379 = .ok (.iaload, 1) := dz_at dqL_law_p342c2 13 rfl
set_option maxRecDepth 20000 in
theorem dqL_law_p342c3 : dz_rn 380 (cL_law.data.toList.drop 380) [(0, 4), (0, 3), (0, 14), (0, 11), (0, 10), (3, 1), (0, 24), (0, 6), (0, 4), (0, 3), (0, 9), (0, 11), (0, 10), (0, 4)] = some [(380, .aload_n 0, 1), (381, .iload_n 3, 1), (382, .iconst 2, 1), (383, .iadd, 1), (384, .iaload, 1), (385, .invokevirtual 38, 3), (388, .pop, 1), (389, .aload_n 2, 1), (390, .aload_n 0, 1), (391, .iload_n 3, 1), (392, .iconst 1, 1), (393, .iadd, 1), (394, .iaload, 1), (395, .aload_n 0, 1)] := by decide +kernel
theorem dL_law_380 : decode cL_law 380 = .ok (.aload_n 0, 1) := dz_at dqL_law_p342c3 0 rfl
theorem dL_law_381 : decode cL_law 381 = .ok (.iload_n 3, 1) := dz_at dqL_law_p342c3 1 rfl
theorem dL_law_382 : decode cL_law 382 = .ok (.iconst 2, 1) := dz_at dqL_law_p342c3 2 rfl
theorem dL_law_383 : decode cL_law 383 = .ok (.iadd, 1) := dz_at dqL_law_p342c3 3 rfl
theorem dL_law_384 : decode cL_law 384 = .ok (.iaload, 1) := dz_at dqL_law_p342c3 4 rfl
theorem dL_law_385 : decode cL_law 385 = .ok (.invokevirtual 38, 3) := dz_at dqL_law_p342c3 5 rfl
theorem dL_law_388 : decode cL_law 388 = .ok (.pop, 1) := dz_at dqL_law_p342c3 6 rfl
theorem dL_law_389 : decode cL_law 389 = .ok (.aload_n 2, 1) := dz_at dqL_law_p342c3 7 rfl
theorem dL_law_390 : decode cL_law 390 = .ok (.aload_n 0, 1) := dz_at dqL_law_p342c3 8 rfl
theorem dL_law_391 : decode cL_law 391 = .ok (.iload_n 3, 1) := dz_at dqL_law_p342c3 9 rfl
theorem dL_law_392 : decode cL_law 392 = .ok (.iconst 1, 1) := dz_at dqL_law_p342c3 10 rfl
theorem dL_law_393 : decode cL_law 393 = .ok (.iadd, 1) := dz_at dqL_law_p342c3 11 rfl
theorem dL_law_394 : decode cL_law 394 = .ok (.iaload, 1) := dz_at dqL_law_p342c3 12 rfl
theorem dL_law_395 : decode cL_law 395 = .ok (.aload_n 0, 1) := dz_at dqL_law_p342c3 13 rfl
set_option maxRecDepth 20000 in
theorem dqL_law_p342c4 : dz_rn 396 (cL_law.data.toList.drop 396) [(0, 3), (0, 14), (0, 11), (0, 10), (3, 1), (0, 24), (4, 0), (0, 5), (0, 4), (0, 3), (0, 9), (0, 11), (0, 10), (3, 1)] = some [(396, .iload_n 3, 1), (397, .iconst 2, 1), (398, .iadd, 1), (399, .iaload, 1), (400, .invokevirtual 41, 3), (403, .pop, 1), (404, .goto 844, 3), (407, .aload_n 1, 1), (408, .aload_n 0, 1), (409, .iload_n 3, 1), (410, .iconst 1, 1), (411, .iadd, 1), (412, .iaload, 1), (413, .invokevirtual 42, 3)] := by decide +kernel
theorem dL_law_396 : decode cL_law 396 = .ok (.iload_n 3, 1) := dz_at dqL_law_p342c4 0 rfl
theorem dL_law_397 : decode cL_law 397 = .ok (.iconst 2, 1) := dz_at dqL_law_p342c4 1 rfl
theorem dL_law_398 : decode cL_law 398 = .ok (.iadd, 1) := dz_at dqL_law_p342c4 2 rfl
theorem dL_law_399 : decode cL_law 399 = .ok (.iaload, 1) := dz_at dqL_law_p342c4 3 rfl
theorem dL_law_400 : decode cL_law 400 = .ok (.invokevirtual 41, 3) := dz_at dqL_law_p342c4 4 rfl
theorem dL_law_403 : decode cL_law 403 = .ok (.pop, 1) := dz_at dqL_law_p342c4 5 rfl
theorem dL_law_404 : decode cL_law 404 = .ok (.goto 844, 3) := dz_at dqL_law_p342c4 6 rfl
theorem dL_law_407 : decode cL_law 407 = .ok (.aload_n 1, 1) := dz_at dqL_law_p342c4 7 rfl
theorem dL_law_408 : decode cL_law 408 = .ok (.aload_n 0, 1) := dz_at dqL_law_p342c4 8 rfl
theorem dL_law_409 : decode cL_law 409 = .ok (.iload_n 3, 1) := dz_at dqL_law_p342c4 9 rfl
theorem dL_law_410 : decode cL_law 410 = .ok (.iconst 1, 1) := dz_at dqL_law_p342c4 10 rfl
theorem dL_law_411 : decode cL_law 411 = .ok (.iadd, 1) := dz_at dqL_law_p342c4 11 rfl
theorem dL_law_412 : decode cL_law 412 = .ok (.iaload, 1) := dz_at dqL_law_p342c4 12 rfl
theorem dL_law_413 : decode cL_law 413 = .ok (.invokevirtual 42, 3) := dz_at dqL_law_p342c4 13 rfl
set_option maxRecDepth 20000 in
theorem dqL_law_p342c5 : dz_rn 416 (cL_law.data.toList.drop 416) [(0, 24), (0, 6), (0, 4), (0, 3)] = some [(416, .pop, 1), (417, .aload_n 2, 1), (418, .aload_n 0, 1), (419, .iload_n 3, 1)] := by decide +kernel
theorem dL_law_416 : decode cL_law 416 = .ok (.pop, 1) := dz_at dqL_law_p342c5 0 rfl
theorem dL_law_417 : decode cL_law 417 = .ok (.aload_n 2, 1) := dz_at dqL_law_p342c5 1 rfl
theorem dL_law_418 : decode cL_law 418 = .ok (.aload_n 0, 1) := dz_at dqL_law_p342c5 2 rfl
theorem dL_law_419 : decode cL_law 419 = .ok (.iload_n 3, 1) := dz_at dqL_law_p342c5 3 rfl
end
section
set_option maxRecDepth 20000 in
theorem dqL_law_p342d0 : dz_rn 420 (cL_law.data.toList.drop 420) [(0, 9), (0, 11), (0, 10), (3, 1), (0, 24), (4, 0), (0, 5), (0, 4), (0, 3), (0, 9), (0, 11), (0, 10), (0, 4), (0, 3)] = some [(420, .iconst 1, 1), (421, .iadd, 1), (422, .iaload, 1), (423, .invokevirtual 46, 3), (426, .pop, 1), (427, .goto 821, 3), (430, .aload_n 1, 1), (431, .aload_n 0, 1), (432, .iload_n 3, 1), (433, .iconst 1, 1), (434, .iadd, 1), (435, .iaload, 1), (436, .aload_n 0, 1), (437, .iload_n 3, 1)] := by decide +kernel
theorem dL_law_420 : decode cL_law 420 = .ok (.iconst 1, 1) := dz_at dqL_law_p342d0 0 rfl
theorem dL_law_421 : decode cL_law 421 = .ok (.iadd, 1) := dz_at dqL_law_p342d0 1 rfl
theorem dL_law_422 : decode cL_law 422 = .ok (.iaload, 1) := dz_at dqL_law_p342d0 2 rfl
theorem dL_law_423 : decode cL_law 423 = .ok (.invokevirtual 46, 3) := dz_at dqL_law_p342d0 3 rfl
theorem dL_law_426 : decode cL_law 426 = .ok (.pop, 1) := dz_at dqL_law_p342d0 4 rfl
theorem dL_law_427 : decode cL_law 427 = .ok (.goto 821, 3) := dz_at dqL_law_p342d0 5 rfl
theorem dL_law_430 : decode cL_law 430 = .ok (.aload_n 1, 1) := dz_at dqL_law_p342d0 6 rfl
theorem dL_law_431 : decode cL_law 431 = .ok (.aload_n 0, 1) := dz_at dqL_law_p342d0 7 rfl
theorem dL_law_432 : decode cL_law 432 = .ok (.iload_n 3, 1) := dz_at dqL_law_p342d0 8 rfl
theorem dL_law_433 : decode cL_law 433 = .ok (.iconst 1, 1) := dz_at dqL_law_p342d0 9 rfl
theorem dL_law_434 : decode cL_law 434 = .ok (.iadd, 1) := dz_at dqL_law_p342d0 10 rfl
theorem dL_law_435 : decode cL_law 435 = .ok (.iaload, 1) := dz_at dqL_law_p342d0 11 rfl
theorem dL_law_436 : decode cL_law 436 = .ok (.aload_n 0, 1) := dz_at dqL_law_p342d0 12 rfl
theorem dL_law_437 : decode cL_law 437 = .ok (.iload_n 3, 1) := dz_at dqL_law_p342d0 13 rfl
set_option maxRecDepth 20000 in
theorem dqL_law_p342d1 : dz_rn 438 (cL_law.data.toList.drop 438) [(0, 14), (0, 11), (0, 10), (3, 1), (0, 24), (0, 6), (0, 4), (0, 3), (0, 9), (0, 11), (0, 10), (0, 4), (0, 3), (0, 14)] = some [(438, .iconst 2, 1), (439, .iadd, 1), (440, .iaload, 1), (441, .invokevirtual 47, 3), (444, .pop, 1), (445, .aload_n 2, 1), (446, .aload_n 0, 1), (447, .iload_n 3, 1), (448, .iconst 1, 1), (449, .iadd, 1), (450, .iaload, 1), (451, .aload_n 0, 1), (452, .iload_n 3, 1), (453, .iconst 2, 1)] := by decide +kernel
theorem dL_law_438 : decode cL_law 438 = .ok (.iconst 2, 1) := dz_at dqL_law_p342d1 0 rfl
theorem dL_law_439 : decode cL_law 439 = .ok (.iadd, 1) := dz_at dqL_law_p342d1 1 rfl
theorem dL_law_440 : decode cL_law 440 = .ok (.iaload, 1) := dz_at dqL_law_p342d1 2 rfl
theorem dL_law_441 : decode cL_law 441 = .ok (.invokevirtual 47, 3) := dz_at dqL_law_p342d1 3 rfl
theorem dL_law_444 : decode cL_law 444 = .ok (.pop, 1) := dz_at dqL_law_p342d1 4 rfl
theorem dL_law_445 : decode cL_law 445 = .ok (.aload_n 2, 1) := dz_at dqL_law_p342d1 5 rfl
theorem dL_law_446 : decode cL_law 446 = .ok (.aload_n 0, 1) := dz_at dqL_law_p342d1 6 rfl
theorem dL_law_447 : decode cL_law 447 = .ok (.iload_n 3, 1) := dz_at dqL_law_p342d1 7 rfl
theorem dL_law_448 : decode cL_law 448 = .ok (.iconst 1, 1) := dz_at dqL_law_p342d1 8 rfl
theorem dL_law_449 : decode cL_law 449 = .ok (.iadd, 1) := dz_at dqL_law_p342d1 9 rfl
theorem dL_law_450 : decode cL_law 450 = .ok (.iaload, 1) := dz_at dqL_law_p342d1 10 rfl
theorem dL_law_451 : decode cL_law 451 = .ok (.aload_n 0, 1) := dz_at dqL_law_p342d1 11 rfl
theorem dL_law_452 : decode cL_law 452 = .ok (.iload_n 3, 1) := dz_at dqL_law_p342d1 12 rfl
theorem dL_law_453 : decode cL_law 453 = .ok (.iconst 2, 1) := dz_at dqL_law_p342d1 13 rfl
set_option maxRecDepth 20000 in
theorem dqL_law_p342d2 : dz_rn 454 (cL_law.data.toList.drop 454) [(0, 11), (0, 10), (3, 1), (0, 24), (4, 0), (0, 5), (0, 4), (0, 3), (0, 9), (0, 11), (0, 10), (3, 1), (0, 24), (0, 6)] = some [(454, .iadd, 1), (455, .iaload, 1), (456, .invokevirtual 50, 3), (459, .pop, 1), (460, .goto 788, 3), (463, .aload_n 1, 1), (464, .aload_n 0, 1), (465, .iload_n 3, 1), (466, .iconst 1, 1), (467, .iadd, 1), (468, .iaload, 1), (469, .invokevirtual 51, 3), (472, .pop, 1), (473, .aload_n 2, 1)] := by decide +kernel
theorem dL_law_454 : decode cL_law 454 = .ok (.iadd, 1) := dz_at dqL_law_p342d2 0 rfl
theorem dL_law_455 : decode cL_law 455 = .ok (.iaload, 1) := dz_at dqL_law_p342d2 1 rfl
theorem dL_law_456 : decode cL_law 456 = .ok (.invokevirtual 50, 3) := dz_at dqL_law_p342d2 2 rfl
theorem dL_law_459 : decode cL_law 459 = .ok (.pop, 1) := dz_at dqL_law_p342d2 3 rfl
theorem dL_law_460 : decode cL_law 460 = .ok (.goto 788, 3) := dz_at dqL_law_p342d2 4 rfl
theorem dL_law_463 : decode cL_law 463 = .ok (.aload_n 1, 1) := dz_at dqL_law_p342d2 5 rfl
theorem dL_law_464 : decode cL_law 464 = .ok (.aload_n 0, 1) := dz_at dqL_law_p342d2 6 rfl
theorem dL_law_465 : decode cL_law 465 = .ok (.iload_n 3, 1) := dz_at dqL_law_p342d2 7 rfl
theorem dL_law_466 : decode cL_law 466 = .ok (.iconst 1, 1) := dz_at dqL_law_p342d2 8 rfl
theorem dL_law_467 : decode cL_law 467 = .ok (.iadd, 1) := dz_at dqL_law_p342d2 9 rfl
theorem dL_law_468 : decode cL_law 468 = .ok (.iaload, 1) := dz_at dqL_law_p342d2 10 rfl
theorem dL_law_469 : decode cL_law 469 = .ok (.invokevirtual 51, 3) := dz_at dqL_law_p342d2 11 rfl
theorem dL_law_472 : decode cL_law 472 = .ok (.pop, 1) := dz_at dqL_law_p342d2 12 rfl
theorem dL_law_473 : decode cL_law 473 = .ok (.aload_n 2, 1) := dz_at dqL_law_p342d2 13 rfl
set_option maxRecDepth 20000 in
theorem dqL_law_p342d3 : dz_rn 474 (cL_law.data.toList.drop 474) [(0, 4), (0, 3), (0, 9), (0, 11), (0, 10), (3, 1), (0, 24), (4, 0), (0, 5), (0, 4), (0, 3), (0, 9), (0, 11), (0, 10)] = some [(474, .aload_n 0, 1), (475, .iload_n 3, 1), (476, .iconst 1, 1), (477, .iadd, 1), (478, .iaload, 1), (479, .invokevirtual 54, 3), (482, .pop, 1), (483, .goto 765, 3), (486, .aload_n 1, 1), (487, .aload_n 0, 1), (488, .iload_n 3, 1), (489, .iconst 1, 1), (490, .iadd, 1), (491, .iaload, 1)] := by decide +kernel
theorem dL_law_474 : decode cL_law 474 = .ok (.aload_n 0, 1) := dz_at dqL_law_p342d3 0 rfl
theorem dL_law_475 : decode cL_law 475 = .ok (.iload_n 3, 1) := dz_at dqL_law_p342d3 1 rfl
theorem dL_law_476 : decode cL_law 476 = .ok (.iconst 1, 1) := dz_at dqL_law_p342d3 2 rfl
theorem dL_law_477 : decode cL_law 477 = .ok (.iadd, 1) := dz_at dqL_law_p342d3 3 rfl
theorem dL_law_478 : decode cL_law 478 = .ok (.iaload, 1) := dz_at dqL_law_p342d3 4 rfl
theorem dL_law_479 : decode cL_law 479 = .ok (.invokevirtual 54, 3) := dz_at dqL_law_p342d3 5 rfl
theorem dL_law_482 : decode cL_law 482 = .ok (.pop, 1) := dz_at dqL_law_p342d3 6 rfl
theorem dL_law_483 : decode cL_law 483 = .ok (.goto 765, 3) := dz_at dqL_law_p342d3 7 rfl
theorem dL_law_486 : decode cL_law 486 = .ok (.aload_n 1, 1) := dz_at dqL_law_p342d3 8 rfl
theorem dL_law_487 : decode cL_law 487 = .ok (.aload_n 0, 1) := dz_at dqL_law_p342d3 9 rfl
theorem dL_law_488 : decode cL_law 488 = .ok (.iload_n 3, 1) := dz_at dqL_law_p342d3 10 rfl
theorem dL_law_489 : decode cL_law 489 = .ok (.iconst 1, 1) := dz_at dqL_law_p342d3 11 rfl
theorem dL_law_490 : decode cL_law 490 = .ok (.iadd, 1) := dz_at dqL_law_p342d3 12 rfl
theorem dL_law_491 : decode cL_law 491 = .ok (.iaload, 1) := dz_at dqL_law_p342d3 13 rfl
set_option maxRecDepth 20000 in
theorem dqL_law_p342d4 : dz_rn 492 (cL_law.data.toList.drop 492) [(3, 1), (0, 24), (0, 6), (0, 4), (0, 3), (0, 9), (0, 11), (0, 10), (3, 1), (0, 24), (4, 0), (0, 5), (0, 4), (0, 3)] = some [(492, .invokevirtual 55, 3), (495, .pop, 1), (496, .aload_n 2, 1), (497, .aload_n 0, 1), (498, .iload_n 3, 1), (499, .iconst 1, 1), (500, .iadd, 1), (501, .iaload, 1), (502, .invokevirtual 58, 3), (505, .pop, 1), (506, .goto 742, 3), (509, .aload_n 1, 1), (510, .aload_n 0, 1), (511, .iload_n 3, 1)] := by decide +kernel
theorem dL_law_492 : decode cL_law 492 = .ok (.invokevirtual 55, 3) := dz_at dqL_law_p342d4 0 rfl
theorem dL_law_495 : decode cL_law 495 = .ok (.pop, 1) := dz_at dqL_law_p342d4 1 rfl
theorem dL_law_496 : decode cL_law 496 = .ok (.aload_n 2, 1) := dz_at dqL_law_p342d4 2 rfl
theorem dL_law_497 : decode cL_law 497 = .ok (.aload_n 0, 1) := dz_at dqL_law_p342d4 3 rfl
theorem dL_law_498 : decode cL_law 498 = .ok (.iload_n 3, 1) := dz_at dqL_law_p342d4 4 rfl
theorem dL_law_499 : decode cL_law 499 = .ok (.iconst 1, 1) := dz_at dqL_law_p342d4 5 rfl
theorem dL_law_500 : decode cL_law 500 = .ok (.iadd, 1) := dz_at dqL_law_p342d4 6 rfl
theorem dL_law_501 : decode cL_law 501 = .ok (.iaload, 1) := dz_at dqL_law_p342d4 7 rfl
theorem dL_law_502 : decode cL_law 502 = .ok (.invokevirtual 58, 3) := dz_at dqL_law_p342d4 8 rfl
theorem dL_law_505 : decode cL_law 505 = .ok (.pop, 1) := dz_at dqL_law_p342d4 9 rfl
theorem dL_law_506 : decode cL_law 506 = .ok (.goto 742, 3) := dz_at dqL_law_p342d4 10 rfl
theorem dL_law_509 : decode cL_law 509 = .ok (.aload_n 1, 1) := dz_at dqL_law_p342d4 11 rfl
theorem dL_law_510 : decode cL_law 510 = .ok (.aload_n 0, 1) := dz_at dqL_law_p342d4 12 rfl
theorem dL_law_511 : decode cL_law 511 = .ok (.iload_n 3, 1) := dz_at dqL_law_p342d4 13 rfl
set_option maxRecDepth 20000 in
theorem dqL_law_p342d5 : dz_rn 512 (cL_law.data.toList.drop 512) [(0, 9), (0, 11), (0, 10), (3, 1)] = some [(512, .iconst 1, 1), (513, .iadd, 1), (514, .iaload, 1), (515, .invokevirtual 59, 3)] := by decide +kernel
theorem dL_law_512 : decode cL_law 512 = .ok (.iconst 1, 1) := dz_at dqL_law_p342d5 0 rfl
theorem dL_law_513 : decode cL_law 513 = .ok (.iadd, 1) := dz_at dqL_law_p342d5 1 rfl
theorem dL_law_514 : decode cL_law 514 = .ok (.iaload, 1) := dz_at dqL_law_p342d5 2 rfl
theorem dL_law_515 : decode cL_law 515 = .ok (.invokevirtual 59, 3) := dz_at dqL_law_p342d5 3 rfl
end
section
set_option maxRecDepth 20000 in
theorem dqL_law_p342e0 : dz_rn 518 (cL_law.data.toList.drop 518) [(0, 24), (0, 6), (0, 4), (0, 3), (0, 9), (0, 11), (0, 10), (3, 1), (0, 24), (4, 0), (0, 5), (0, 4), (0, 3), (0, 9)] = some [(518, .pop, 1), (519, .aload_n 2, 1), (520, .aload_n 0, 1), (521, .iload_n 3, 1), (522, .iconst 1, 1), (523, .iadd, 1), (524, .iaload, 1), (525, .invokevirtual 62, 3), (528, .pop, 1), (529, .goto 719, 3), (532, .aload_n 1, 1), (533, .aload_n 0, 1), (534, .iload_n 3, 1), (535, .iconst 1, 1)] := by decide +kernel
theorem dL_law_518 : decode cL_law 518 = .ok (.pop, 1) := dz_at dqL_law_p342e0 0 rfl
theorem dL_law_519 : decode cL_law 519 = .ok (.aload_n 2, 1) := dz_at dqL_law_p342e0 1 rfl
theorem dL_law_520 : decode cL_law 520 = .ok (.aload_n 0, 1) := dz_at dqL_law_p342e0 2 rfl
theorem dL_law_521 : decode cL_law 521 = .ok (.iload_n 3, 1) := dz_at dqL_law_p342e0 3 rfl
theorem dL_law_522 : decode cL_law 522 = .ok (.iconst 1, 1) := dz_at dqL_law_p342e0 4 rfl
theorem dL_law_523 : decode cL_law 523 = .ok (.iadd, 1) := dz_at dqL_law_p342e0 5 rfl
theorem dL_law_524 : decode cL_law 524 = .ok (.iaload, 1) := dz_at dqL_law_p342e0 6 rfl
theorem dL_law_525 : decode cL_law 525 = .ok (.invokevirtual 62, 3) := dz_at dqL_law_p342e0 7 rfl
theorem dL_law_528 : decode cL_law 528 = .ok (.pop, 1) := dz_at dqL_law_p342e0 8 rfl
theorem dL_law_529 : decode cL_law 529 = .ok (.goto 719, 3) := dz_at dqL_law_p342e0 9 rfl
theorem dL_law_532 : decode cL_law 532 = .ok (.aload_n 1, 1) := dz_at dqL_law_p342e0 10 rfl
theorem dL_law_533 : decode cL_law 533 = .ok (.aload_n 0, 1) := dz_at dqL_law_p342e0 11 rfl
theorem dL_law_534 : decode cL_law 534 = .ok (.iload_n 3, 1) := dz_at dqL_law_p342e0 12 rfl
theorem dL_law_535 : decode cL_law 535 = .ok (.iconst 1, 1) := dz_at dqL_law_p342e0 13 rfl
set_option maxRecDepth 20000 in
theorem dqL_law_p342e1 : dz_rn 536 (cL_law.data.toList.drop 536) [(0, 11), (0, 10), (0, 33), (2, 0), (0, 42), (0, 4), (0, 3), (0, 14), (0, 11), (0, 10), (0, 33), (3, 4), (0, 38), (0, 43)] = some [(536, .iadd, 1), (537, .iaload, 1), (538, .i2l, 1), (539, .bipush 32, 2), (541, .lshl, 1), (542, .aload_n 0, 1), (543, .iload_n 3, 1), (544, .iconst 2, 1), (545, .iadd, 1), (546, .iaload, 1), (547, .i2l, 1), (548, .ldc2_w 63, 3), (551, .land, 1), (552, .lor, 1)] := by decide +kernel
theorem dL_law_536 : decode cL_law 536 = .ok (.iadd, 1) := dz_at dqL_law_p342e1 0 rfl
theorem dL_law_537 : decode cL_law 537 = .ok (.iaload, 1) := dz_at dqL_law_p342e1 1 rfl
theorem dL_law_538 : decode cL_law 538 = .ok (.i2l, 1) := dz_at dqL_law_p342e1 2 rfl
theorem dL_law_539 : decode cL_law 539 = .ok (.bipush 32, 2) := dz_at dqL_law_p342e1 3 rfl
theorem dL_law_541 : decode cL_law 541 = .ok (.lshl, 1) := dz_at dqL_law_p342e1 4 rfl
theorem dL_law_542 : decode cL_law 542 = .ok (.aload_n 0, 1) := dz_at dqL_law_p342e1 5 rfl
theorem dL_law_543 : decode cL_law 543 = .ok (.iload_n 3, 1) := dz_at dqL_law_p342e1 6 rfl
theorem dL_law_544 : decode cL_law 544 = .ok (.iconst 2, 1) := dz_at dqL_law_p342e1 7 rfl
theorem dL_law_545 : decode cL_law 545 = .ok (.iadd, 1) := dz_at dqL_law_p342e1 8 rfl
theorem dL_law_546 : decode cL_law 546 = .ok (.iaload, 1) := dz_at dqL_law_p342e1 9 rfl
theorem dL_law_547 : decode cL_law 547 = .ok (.i2l, 1) := dz_at dqL_law_p342e1 10 rfl
theorem dL_law_548 : decode cL_law 548 = .ok (.ldc2_w 63, 3) := dz_at dqL_law_p342e1 11 rfl
theorem dL_law_551 : decode cL_law 551 = .ok (.land, 1) := dz_at dqL_law_p342e1 12 rfl
theorem dL_law_552 : decode cL_law 552 = .ok (.lor, 1) := dz_at dqL_law_p342e1 13 rfl
set_option maxRecDepth 20000 in
theorem dqL_law_p342e2 : dz_rn 553 (cL_law.data.toList.drop 553) [(0, 4), (0, 3), (0, 15), (0, 11), (0, 10), (3, 1), (0, 24), (0, 6), (0, 4), (0, 3), (0, 9), (0, 11), (0, 10), (0, 33)] = some [(553, .aload_n 0, 1), (554, .iload_n 3, 1), (555, .iconst 3, 1), (556, .iadd, 1), (557, .iaload, 1), (558, .invokevirtual 65, 3), (561, .pop, 1), (562, .aload_n 2, 1), (563, .aload_n 0, 1), (564, .iload_n 3, 1), (565, .iconst 1, 1), (566, .iadd, 1), (567, .iaload, 1), (568, .i2l, 1)] := by decide +kernel
theorem dL_law_553 : decode cL_law 553 = .ok (.aload_n 0, 1) := dz_at dqL_law_p342e2 0 rfl
theorem dL_law_554 : decode cL_law 554 = .ok (.iload_n 3, 1) := dz_at dqL_law_p342e2 1 rfl
theorem dL_law_555 : decode cL_law 555 = .ok (.iconst 3, 1) := dz_at dqL_law_p342e2 2 rfl
theorem dL_law_556 : decode cL_law 556 = .ok (.iadd, 1) := dz_at dqL_law_p342e2 3 rfl
theorem dL_law_557 : decode cL_law 557 = .ok (.iaload, 1) := dz_at dqL_law_p342e2 4 rfl
theorem dL_law_558 : decode cL_law 558 = .ok (.invokevirtual 65, 3) := dz_at dqL_law_p342e2 5 rfl
theorem dL_law_561 : decode cL_law 561 = .ok (.pop, 1) := dz_at dqL_law_p342e2 6 rfl
theorem dL_law_562 : decode cL_law 562 = .ok (.aload_n 2, 1) := dz_at dqL_law_p342e2 7 rfl
theorem dL_law_563 : decode cL_law 563 = .ok (.aload_n 0, 1) := dz_at dqL_law_p342e2 8 rfl
theorem dL_law_564 : decode cL_law 564 = .ok (.iload_n 3, 1) := dz_at dqL_law_p342e2 9 rfl
theorem dL_law_565 : decode cL_law 565 = .ok (.iconst 1, 1) := dz_at dqL_law_p342e2 10 rfl
theorem dL_law_566 : decode cL_law 566 = .ok (.iadd, 1) := dz_at dqL_law_p342e2 11 rfl
theorem dL_law_567 : decode cL_law 567 = .ok (.iaload, 1) := dz_at dqL_law_p342e2 12 rfl
theorem dL_law_568 : decode cL_law 568 = .ok (.i2l, 1) := dz_at dqL_law_p342e2 13 rfl
set_option maxRecDepth 20000 in
theorem dqL_law_p342e3 : dz_rn 569 (cL_law.data.toList.drop 569) [(2, 0), (0, 42), (0, 4), (0, 3), (0, 14), (0, 11), (0, 10), (0, 33), (3, 4), (0, 38), (0, 43), (0, 4), (0, 3), (0, 15)] = some [(569, .bipush 32, 2), (571, .lshl, 1), (572, .aload_n 0, 1), (573, .iload_n 3, 1), (574, .iconst 2, 1), (575, .iadd, 1), (576, .iaload, 1), (577, .i2l, 1), (578, .ldc2_w 63, 3), (581, .land, 1), (582, .lor, 1), (583, .aload_n 0, 1), (584, .iload_n 3, 1), (585, .iconst 3, 1)] := by decide +kernel
theorem dL_law_569 : decode cL_law 569 = .ok (.bipush 32, 2) := dz_at dqL_law_p342e3 0 rfl
theorem dL_law_571 : decode cL_law 571 = .ok (.lshl, 1) := dz_at dqL_law_p342e3 1 rfl
theorem dL_law_572 : decode cL_law 572 = .ok (.aload_n 0, 1) := dz_at dqL_law_p342e3 2 rfl
theorem dL_law_573 : decode cL_law 573 = .ok (.iload_n 3, 1) := dz_at dqL_law_p342e3 3 rfl
theorem dL_law_574 : decode cL_law 574 = .ok (.iconst 2, 1) := dz_at dqL_law_p342e3 4 rfl
theorem dL_law_575 : decode cL_law 575 = .ok (.iadd, 1) := dz_at dqL_law_p342e3 5 rfl
theorem dL_law_576 : decode cL_law 576 = .ok (.iaload, 1) := dz_at dqL_law_p342e3 6 rfl
theorem dL_law_577 : decode cL_law 577 = .ok (.i2l, 1) := dz_at dqL_law_p342e3 7 rfl
theorem dL_law_578 : decode cL_law 578 = .ok (.ldc2_w 63, 3) := dz_at dqL_law_p342e3 8 rfl
theorem dL_law_581 : decode cL_law 581 = .ok (.land, 1) := dz_at dqL_law_p342e3 9 rfl
theorem dL_law_582 : decode cL_law 582 = .ok (.lor, 1) := dz_at dqL_law_p342e3 10 rfl
theorem dL_law_583 : decode cL_law 583 = .ok (.aload_n 0, 1) := dz_at dqL_law_p342e3 11 rfl
theorem dL_law_584 : decode cL_law 584 = .ok (.iload_n 3, 1) := dz_at dqL_law_p342e3 12 rfl
theorem dL_law_585 : decode cL_law 585 = .ok (.iconst 3, 1) := dz_at dqL_law_p342e3 13 rfl
set_option maxRecDepth 20000 in
theorem dqL_law_p342e4 : dz_rn 586 (cL_law.data.toList.drop 586) [(0, 11), (0, 10), (3, 1), (0, 24), (4, 0), (0, 5), (3, 1), (0, 24), (0, 6), (3, 1), (0, 24), (4, 0), (0, 5), (3, 1)] = some [(586, .iadd, 1), (587, .iaload, 1), (588, .invokevirtual 69, 3), (591, .pop, 1), (592, .goto 656, 3), (595, .aload_n 1, 1), (596, .invokevirtual 70, 3), (599, .pop, 1), (600, .aload_n 2, 1), (601, .invokevirtual 74, 3), (604, .pop, 1), (605, .goto 643, 3), (608, .aload_n 1, 1), (609, .invokevirtual 75, 3)] := by decide +kernel
theorem dL_law_586 : decode cL_law 586 = .ok (.iadd, 1) := dz_at dqL_law_p342e4 0 rfl
theorem dL_law_587 : decode cL_law 587 = .ok (.iaload, 1) := dz_at dqL_law_p342e4 1 rfl
theorem dL_law_588 : decode cL_law 588 = .ok (.invokevirtual 69, 3) := dz_at dqL_law_p342e4 2 rfl
theorem dL_law_591 : decode cL_law 591 = .ok (.pop, 1) := dz_at dqL_law_p342e4 3 rfl
theorem dL_law_592 : decode cL_law 592 = .ok (.goto 656, 3) := dz_at dqL_law_p342e4 4 rfl
theorem dL_law_595 : decode cL_law 595 = .ok (.aload_n 1, 1) := dz_at dqL_law_p342e4 5 rfl
theorem dL_law_596 : decode cL_law 596 = .ok (.invokevirtual 70, 3) := dz_at dqL_law_p342e4 6 rfl
theorem dL_law_599 : decode cL_law 599 = .ok (.pop, 1) := dz_at dqL_law_p342e4 7 rfl
theorem dL_law_600 : decode cL_law 600 = .ok (.aload_n 2, 1) := dz_at dqL_law_p342e4 8 rfl
theorem dL_law_601 : decode cL_law 601 = .ok (.invokevirtual 74, 3) := dz_at dqL_law_p342e4 9 rfl
theorem dL_law_604 : decode cL_law 604 = .ok (.pop, 1) := dz_at dqL_law_p342e4 10 rfl
theorem dL_law_605 : decode cL_law 605 = .ok (.goto 643, 3) := dz_at dqL_law_p342e4 11 rfl
theorem dL_law_608 : decode cL_law 608 = .ok (.aload_n 1, 1) := dz_at dqL_law_p342e4 12 rfl
theorem dL_law_609 : decode cL_law 609 = .ok (.invokevirtual 75, 3) := dz_at dqL_law_p342e4 13 rfl
set_option maxRecDepth 20000 in
theorem dqL_law_p342e5 : dz_rn 612 (cL_law.data.toList.drop 612) [(0, 24), (0, 6), (3, 1), (0, 24)] = some [(612, .pop, 1), (613, .aload_n 2, 1), (614, .invokevirtual 78, 3), (617, .pop, 1)] := by decide +kernel
theorem dL_law_612 : decode cL_law 612 = .ok (.pop, 1) := dz_at dqL_law_p342e5 0 rfl
theorem dL_law_613 : decode cL_law 613 = .ok (.aload_n 2, 1) := dz_at dqL_law_p342e5 1 rfl
theorem dL_law_614 : decode cL_law 614 = .ok (.invokevirtual 78, 3) := dz_at dqL_law_p342e5 2 rfl
theorem dL_law_617 : decode cL_law 617 = .ok (.pop, 1) := dz_at dqL_law_p342e5 3 rfl
end
section
set_option maxRecDepth 20000 in
theorem dqL_law_p342f0 : dz_rn 618 (cL_law.data.toList.drop 618) [(4, 0), (0, 5), (3, 1), (0, 24), (0, 6), (3, 1), (0, 24), (4, 0), (0, 5), (0, 4), (0, 3), (0, 9), (0, 11), (0, 10)] = some [(618, .goto 630, 3), (621, .aload_n 1, 1), (622, .invokevirtual 79, 3), (625, .pop, 1), (626, .aload_n 2, 1), (627, .invokevirtual 82, 3), (630, .pop, 1), (631, .goto 617, 3), (634, .aload_n 1, 1), (635, .aload_n 0, 1), (636, .iload_n 3, 1), (637, .iconst 1, 1), (638, .iadd, 1), (639, .iaload, 1)] := by decide +kernel
theorem dL_law_618 : decode cL_law 618 = .ok (.goto 630, 3) := dz_at dqL_law_p342f0 0 rfl
theorem dL_law_621 : decode cL_law 621 = .ok (.aload_n 1, 1) := dz_at dqL_law_p342f0 1 rfl
theorem dL_law_622 : decode cL_law 622 = .ok (.invokevirtual 79, 3) := dz_at dqL_law_p342f0 2 rfl
theorem dL_law_625 : decode cL_law 625 = .ok (.pop, 1) := dz_at dqL_law_p342f0 3 rfl
theorem dL_law_626 : decode cL_law 626 = .ok (.aload_n 2, 1) := dz_at dqL_law_p342f0 4 rfl
theorem dL_law_627 : decode cL_law 627 = .ok (.invokevirtual 82, 3) := dz_at dqL_law_p342f0 5 rfl
theorem dL_law_630 : decode cL_law 630 = .ok (.pop, 1) := dz_at dqL_law_p342f0 6 rfl
theorem dL_law_631 : decode cL_law 631 = .ok (.goto 617, 3) := dz_at dqL_law_p342f0 7 rfl
theorem dL_law_634 : decode cL_law 634 = .ok (.aload_n 1, 1) := dz_at dqL_law_p342f0 8 rfl
theorem dL_law_635 : decode cL_law 635 = .ok (.aload_n 0, 1) := dz_at dqL_law_p342f0 9 rfl
theorem dL_law_636 : decode cL_law 636 = .ok (.iload_n 3, 1) := dz_at dqL_law_p342f0 10 rfl
theorem dL_law_637 : decode cL_law 637 = .ok (.iconst 1, 1) := dz_at dqL_law_p342f0 11 rfl
theorem dL_law_638 : decode cL_law 638 = .ok (.iadd, 1) := dz_at dqL_law_p342f0 12 rfl
theorem dL_law_639 : decode cL_law 639 = .ok (.iaload, 1) := dz_at dqL_law_p342f0 13 rfl
set_option maxRecDepth 20000 in
theorem dqL_law_p342f1 : dz_rn 640 (cL_law.data.toList.drop 640) [(0, 4), (0, 3), (0, 14), (0, 11), (0, 10), (3, 1), (0, 24), (0, 6), (0, 4), (0, 3), (0, 9), (0, 11), (0, 10), (0, 4)] = some [(640, .aload_n 0, 1), (641, .iload_n 3, 1), (642, .iconst 2, 1), (643, .iadd, 1), (644, .iaload, 1), (645, .invokevirtual 83, 3), (648, .pop, 1), (649, .aload_n 2, 1), (650, .aload_n 0, 1), (651, .iload_n 3, 1), (652, .iconst 1, 1), (653, .iadd, 1), (654, .iaload, 1), (655, .aload_n 0, 1)] := by decide +kernel
theorem dL_law_640 : decode cL_law 640 = .ok (.aload_n 0, 1) := dz_at dqL_law_p342f1 0 rfl
theorem dL_law_641 : decode cL_law 641 = .ok (.iload_n 3, 1) := dz_at dqL_law_p342f1 1 rfl
theorem dL_law_642 : decode cL_law 642 = .ok (.iconst 2, 1) := dz_at dqL_law_p342f1 2 rfl
theorem dL_law_643 : decode cL_law 643 = .ok (.iadd, 1) := dz_at dqL_law_p342f1 3 rfl
theorem dL_law_644 : decode cL_law 644 = .ok (.iaload, 1) := dz_at dqL_law_p342f1 4 rfl
theorem dL_law_645 : decode cL_law 645 = .ok (.invokevirtual 83, 3) := dz_at dqL_law_p342f1 5 rfl
theorem dL_law_648 : decode cL_law 648 = .ok (.pop, 1) := dz_at dqL_law_p342f1 6 rfl
theorem dL_law_649 : decode cL_law 649 = .ok (.aload_n 2, 1) := dz_at dqL_law_p342f1 7 rfl
theorem dL_law_650 : decode cL_law 650 = .ok (.aload_n 0, 1) := dz_at dqL_law_p342f1 8 rfl
theorem dL_law_651 : decode cL_law 651 = .ok (.iload_n 3, 1) := dz_at dqL_law_p342f1 9 rfl
theorem dL_law_652 : decode cL_law 652 = .ok (.iconst 1, 1) := dz_at dqL_law_p342f1 10 rfl
theorem dL_law_653 : decode cL_law 653 = .ok (.iadd, 1) := dz_at dqL_law_p342f1 11 rfl
theorem dL_law_654 : decode cL_law 654 = .ok (.iaload, 1) := dz_at dqL_law_p342f1 12 rfl
theorem dL_law_655 : decode cL_law 655 = .ok (.aload_n 0, 1) := dz_at dqL_law_p342f1 13 rfl
set_option maxRecDepth 20000 in
theorem dqL_law_p342f2 : dz_rn 656 (cL_law.data.toList.drop 656) [(0, 3), (0, 14), (0, 11), (0, 10), (3, 1), (0, 24), (4, 0), (0, 5), (3, 1), (0, 24), (0, 6), (3, 1), (0, 24), (4, 0)] = some [(656, .iload_n 3, 1), (657, .iconst 2, 1), (658, .iadd, 1), (659, .iaload, 1), (660, .invokevirtual 86, 3), (663, .pop, 1), (664, .goto 584, 3), (667, .aload_n 1, 1), (668, .invokevirtual 87, 3), (671, .pop, 1), (672, .aload_n 2, 1), (673, .invokevirtual 90, 3), (676, .pop, 1), (677, .goto 571, 3)] := by decide +kernel
theorem dL_law_656 : decode cL_law 656 = .ok (.iload_n 3, 1) := dz_at dqL_law_p342f2 0 rfl
theorem dL_law_657 : decode cL_law 657 = .ok (.iconst 2, 1) := dz_at dqL_law_p342f2 1 rfl
theorem dL_law_658 : decode cL_law 658 = .ok (.iadd, 1) := dz_at dqL_law_p342f2 2 rfl
theorem dL_law_659 : decode cL_law 659 = .ok (.iaload, 1) := dz_at dqL_law_p342f2 3 rfl
theorem dL_law_660 : decode cL_law 660 = .ok (.invokevirtual 86, 3) := dz_at dqL_law_p342f2 4 rfl
theorem dL_law_663 : decode cL_law 663 = .ok (.pop, 1) := dz_at dqL_law_p342f2 5 rfl
theorem dL_law_664 : decode cL_law 664 = .ok (.goto 584, 3) := dz_at dqL_law_p342f2 6 rfl
theorem dL_law_667 : decode cL_law 667 = .ok (.aload_n 1, 1) := dz_at dqL_law_p342f2 7 rfl
theorem dL_law_668 : decode cL_law 668 = .ok (.invokevirtual 87, 3) := dz_at dqL_law_p342f2 8 rfl
theorem dL_law_671 : decode cL_law 671 = .ok (.pop, 1) := dz_at dqL_law_p342f2 9 rfl
theorem dL_law_672 : decode cL_law 672 = .ok (.aload_n 2, 1) := dz_at dqL_law_p342f2 10 rfl
theorem dL_law_673 : decode cL_law 673 = .ok (.invokevirtual 90, 3) := dz_at dqL_law_p342f2 11 rfl
theorem dL_law_676 : decode cL_law 676 = .ok (.pop, 1) := dz_at dqL_law_p342f2 12 rfl
theorem dL_law_677 : decode cL_law 677 = .ok (.goto 571, 3) := dz_at dqL_law_p342f2 13 rfl
set_option maxRecDepth 20000 in
theorem dqL_law_p342f3 : dz_rn 680 (cL_law.data.toList.drop 680) [(0, 5), (0, 4), (0, 3), (0, 9), (0, 11), (0, 10), (0, 33), (2, 0), (0, 42), (0, 4), (0, 3), (0, 14), (0, 11), (0, 10)] = some [(680, .aload_n 1, 1), (681, .aload_n 0, 1), (682, .iload_n 3, 1), (683, .iconst 1, 1), (684, .iadd, 1), (685, .iaload, 1), (686, .i2l, 1), (687, .bipush 32, 2), (689, .lshl, 1), (690, .aload_n 0, 1), (691, .iload_n 3, 1), (692, .iconst 2, 1), (693, .iadd, 1), (694, .iaload, 1)] := by decide +kernel
theorem dL_law_680 : decode cL_law 680 = .ok (.aload_n 1, 1) := dz_at dqL_law_p342f3 0 rfl
theorem dL_law_681 : decode cL_law 681 = .ok (.aload_n 0, 1) := dz_at dqL_law_p342f3 1 rfl
theorem dL_law_682 : decode cL_law 682 = .ok (.iload_n 3, 1) := dz_at dqL_law_p342f3 2 rfl
theorem dL_law_683 : decode cL_law 683 = .ok (.iconst 1, 1) := dz_at dqL_law_p342f3 3 rfl
theorem dL_law_684 : decode cL_law 684 = .ok (.iadd, 1) := dz_at dqL_law_p342f3 4 rfl
theorem dL_law_685 : decode cL_law 685 = .ok (.iaload, 1) := dz_at dqL_law_p342f3 5 rfl
theorem dL_law_686 : decode cL_law 686 = .ok (.i2l, 1) := dz_at dqL_law_p342f3 6 rfl
theorem dL_law_687 : decode cL_law 687 = .ok (.bipush 32, 2) := dz_at dqL_law_p342f3 7 rfl
theorem dL_law_689 : decode cL_law 689 = .ok (.lshl, 1) := dz_at dqL_law_p342f3 8 rfl
theorem dL_law_690 : decode cL_law 690 = .ok (.aload_n 0, 1) := dz_at dqL_law_p342f3 9 rfl
theorem dL_law_691 : decode cL_law 691 = .ok (.iload_n 3, 1) := dz_at dqL_law_p342f3 10 rfl
theorem dL_law_692 : decode cL_law 692 = .ok (.iconst 2, 1) := dz_at dqL_law_p342f3 11 rfl
theorem dL_law_693 : decode cL_law 693 = .ok (.iadd, 1) := dz_at dqL_law_p342f3 12 rfl
theorem dL_law_694 : decode cL_law 694 = .ok (.iaload, 1) := dz_at dqL_law_p342f3 13 rfl
set_option maxRecDepth 20000 in
theorem dqL_law_p342f4 : dz_rn 695 (cL_law.data.toList.drop 695) [(0, 33), (3, 4), (0, 38), (0, 43), (0, 4), (0, 3), (0, 15), (0, 11), (0, 10), (0, 4), (0, 3), (0, 16), (0, 11), (0, 10)] = some [(695, .i2l, 1), (696, .ldc2_w 63, 3), (699, .land, 1), (700, .lor, 1), (701, .aload_n 0, 1), (702, .iload_n 3, 1), (703, .iconst 3, 1), (704, .iadd, 1), (705, .iaload, 1), (706, .aload_n 0, 1), (707, .iload_n 3, 1), (708, .iconst 4, 1), (709, .iadd, 1), (710, .iaload, 1)] := by decide +kernel
theorem dL_law_695 : decode cL_law 695 = .ok (.i2l, 1) := dz_at dqL_law_p342f4 0 rfl
theorem dL_law_696 : decode cL_law 696 = .ok (.ldc2_w 63, 3) := dz_at dqL_law_p342f4 1 rfl
theorem dL_law_699 : decode cL_law 699 = .ok (.land, 1) := dz_at dqL_law_p342f4 2 rfl
theorem dL_law_700 : decode cL_law 700 = .ok (.lor, 1) := dz_at dqL_law_p342f4 3 rfl
theorem dL_law_701 : decode cL_law 701 = .ok (.aload_n 0, 1) := dz_at dqL_law_p342f4 4 rfl
theorem dL_law_702 : decode cL_law 702 = .ok (.iload_n 3, 1) := dz_at dqL_law_p342f4 5 rfl
theorem dL_law_703 : decode cL_law 703 = .ok (.iconst 3, 1) := dz_at dqL_law_p342f4 6 rfl
theorem dL_law_704 : decode cL_law 704 = .ok (.iadd, 1) := dz_at dqL_law_p342f4 7 rfl
theorem dL_law_705 : decode cL_law 705 = .ok (.iaload, 1) := dz_at dqL_law_p342f4 8 rfl
theorem dL_law_706 : decode cL_law 706 = .ok (.aload_n 0, 1) := dz_at dqL_law_p342f4 9 rfl
theorem dL_law_707 : decode cL_law 707 = .ok (.iload_n 3, 1) := dz_at dqL_law_p342f4 10 rfl
theorem dL_law_708 : decode cL_law 708 = .ok (.iconst 4, 1) := dz_at dqL_law_p342f4 11 rfl
theorem dL_law_709 : decode cL_law 709 = .ok (.iadd, 1) := dz_at dqL_law_p342f4 12 rfl
theorem dL_law_710 : decode cL_law 710 = .ok (.iaload, 1) := dz_at dqL_law_p342f4 13 rfl
set_option maxRecDepth 20000 in
theorem dqL_law_p342f5 : dz_rn 711 (cL_law.data.toList.drop 711) [(3, 1), (0, 24), (0, 6), (0, 4)] = some [(711, .invokevirtual 91, 3), (714, .pop, 1), (715, .aload_n 2, 1), (716, .aload_n 0, 1)] := by decide +kernel
theorem dL_law_711 : decode cL_law 711 = .ok (.invokevirtual 91, 3) := dz_at dqL_law_p342f5 0 rfl
theorem dL_law_714 : decode cL_law 714 = .ok (.pop, 1) := dz_at dqL_law_p342f5 1 rfl
theorem dL_law_715 : decode cL_law 715 = .ok (.aload_n 2, 1) := dz_at dqL_law_p342f5 2 rfl
theorem dL_law_716 : decode cL_law 716 = .ok (.aload_n 0, 1) := dz_at dqL_law_p342f5 3 rfl
end
section
set_option maxRecDepth 20000 in
theorem dqL_law_p342g0 : dz_rn 717 (cL_law.data.toList.drop 717) [(0, 3), (0, 9), (0, 11), (0, 10), (0, 33), (2, 0), (0, 42), (0, 4), (0, 3), (0, 14), (0, 11), (0, 10), (0, 33), (3, 4)] = some [(717, .iload_n 3, 1), (718, .iconst 1, 1), (719, .iadd, 1), (720, .iaload, 1), (721, .i2l, 1), (722, .bipush 32, 2), (724, .lshl, 1), (725, .aload_n 0, 1), (726, .iload_n 3, 1), (727, .iconst 2, 1), (728, .iadd, 1), (729, .iaload, 1), (730, .i2l, 1), (731, .ldc2_w 63, 3)] := by decide +kernel
theorem dL_law_717 : decode cL_law 717 = .ok (.iload_n 3, 1) := dz_at dqL_law_p342g0 0 rfl
theorem dL_law_718 : decode cL_law 718 = .ok (.iconst 1, 1) := dz_at dqL_law_p342g0 1 rfl
theorem dL_law_719 : decode cL_law 719 = .ok (.iadd, 1) := dz_at dqL_law_p342g0 2 rfl
theorem dL_law_720 : decode cL_law 720 = .ok (.iaload, 1) := dz_at dqL_law_p342g0 3 rfl
theorem dL_law_721 : decode cL_law 721 = .ok (.i2l, 1) := dz_at dqL_law_p342g0 4 rfl
theorem dL_law_722 : decode cL_law 722 = .ok (.bipush 32, 2) := dz_at dqL_law_p342g0 5 rfl
theorem dL_law_724 : decode cL_law 724 = .ok (.lshl, 1) := dz_at dqL_law_p342g0 6 rfl
theorem dL_law_725 : decode cL_law 725 = .ok (.aload_n 0, 1) := dz_at dqL_law_p342g0 7 rfl
theorem dL_law_726 : decode cL_law 726 = .ok (.iload_n 3, 1) := dz_at dqL_law_p342g0 8 rfl
theorem dL_law_727 : decode cL_law 727 = .ok (.iconst 2, 1) := dz_at dqL_law_p342g0 9 rfl
theorem dL_law_728 : decode cL_law 728 = .ok (.iadd, 1) := dz_at dqL_law_p342g0 10 rfl
theorem dL_law_729 : decode cL_law 729 = .ok (.iaload, 1) := dz_at dqL_law_p342g0 11 rfl
theorem dL_law_730 : decode cL_law 730 = .ok (.i2l, 1) := dz_at dqL_law_p342g0 12 rfl
theorem dL_law_731 : decode cL_law 731 = .ok (.ldc2_w 63, 3) := dz_at dqL_law_p342g0 13 rfl
set_option maxRecDepth 20000 in
theorem dqL_law_p342g1 : dz_rn 734 (cL_law.data.toList.drop 734) [(0, 38), (0, 43), (0, 4), (0, 3), (0, 15), (0, 11), (0, 10), (0, 4), (0, 3), (0, 16), (0, 11), (0, 10), (3, 1), (0, 24)] = some [(734, .land, 1), (735, .lor, 1), (736, .aload_n 0, 1), (737, .iload_n 3, 1), (738, .iconst 3, 1), (739, .iadd, 1), (740, .iaload, 1), (741, .aload_n 0, 1), (742, .iload_n 3, 1), (743, .iconst 4, 1), (744, .iadd, 1), (745, .iaload, 1), (746, .invokevirtual 95, 3), (749, .pop, 1)] := by decide +kernel
theorem dL_law_734 : decode cL_law 734 = .ok (.land, 1) := dz_at dqL_law_p342g1 0 rfl
theorem dL_law_735 : decode cL_law 735 = .ok (.lor, 1) := dz_at dqL_law_p342g1 1 rfl
theorem dL_law_736 : decode cL_law 736 = .ok (.aload_n 0, 1) := dz_at dqL_law_p342g1 2 rfl
theorem dL_law_737 : decode cL_law 737 = .ok (.iload_n 3, 1) := dz_at dqL_law_p342g1 3 rfl
theorem dL_law_738 : decode cL_law 738 = .ok (.iconst 3, 1) := dz_at dqL_law_p342g1 4 rfl
theorem dL_law_739 : decode cL_law 739 = .ok (.iadd, 1) := dz_at dqL_law_p342g1 5 rfl
theorem dL_law_740 : decode cL_law 740 = .ok (.iaload, 1) := dz_at dqL_law_p342g1 6 rfl
theorem dL_law_741 : decode cL_law 741 = .ok (.aload_n 0, 1) := dz_at dqL_law_p342g1 7 rfl
theorem dL_law_742 : decode cL_law 742 = .ok (.iload_n 3, 1) := dz_at dqL_law_p342g1 8 rfl
theorem dL_law_743 : decode cL_law 743 = .ok (.iconst 4, 1) := dz_at dqL_law_p342g1 9 rfl
theorem dL_law_744 : decode cL_law 744 = .ok (.iadd, 1) := dz_at dqL_law_p342g1 10 rfl
theorem dL_law_745 : decode cL_law 745 = .ok (.iaload, 1) := dz_at dqL_law_p342g1 11 rfl
theorem dL_law_746 : decode cL_law 746 = .ok (.invokevirtual 95, 3) := dz_at dqL_law_p342g1 12 rfl
theorem dL_law_749 : decode cL_law 749 = .ok (.pop, 1) := dz_at dqL_law_p342g1 13 rfl
set_option maxRecDepth 20000 in
theorem dqL_law_p342g2 : dz_rn 750 (cL_law.data.toList.drop 750) [(4, 0), (0, 5), (0, 4), (0, 3), (0, 9), (0, 11), (0, 10), (3, 1), (0, 24), (0, 6), (0, 4), (0, 3), (0, 9), (0, 11)] = some [(750, .goto 498, 3), (753, .aload_n 1, 1), (754, .aload_n 0, 1), (755, .iload_n 3, 1), (756, .iconst 1, 1), (757, .iadd, 1), (758, .iaload, 1), (759, .invokevirtual 96, 3), (762, .pop, 1), (763, .aload_n 2, 1), (764, .aload_n 0, 1), (765, .iload_n 3, 1), (766, .iconst 1, 1), (767, .iadd, 1)] := by decide +kernel
theorem dL_law_750 : decode cL_law 750 = .ok (.goto 498, 3) := dz_at dqL_law_p342g2 0 rfl
theorem dL_law_753 : decode cL_law 753 = .ok (.aload_n 1, 1) := dz_at dqL_law_p342g2 1 rfl
theorem dL_law_754 : decode cL_law 754 = .ok (.aload_n 0, 1) := dz_at dqL_law_p342g2 2 rfl
theorem dL_law_755 : decode cL_law 755 = .ok (.iload_n 3, 1) := dz_at dqL_law_p342g2 3 rfl
theorem dL_law_756 : decode cL_law 756 = .ok (.iconst 1, 1) := dz_at dqL_law_p342g2 4 rfl
theorem dL_law_757 : decode cL_law 757 = .ok (.iadd, 1) := dz_at dqL_law_p342g2 5 rfl
theorem dL_law_758 : decode cL_law 758 = .ok (.iaload, 1) := dz_at dqL_law_p342g2 6 rfl
theorem dL_law_759 : decode cL_law 759 = .ok (.invokevirtual 96, 3) := dz_at dqL_law_p342g2 7 rfl
theorem dL_law_762 : decode cL_law 762 = .ok (.pop, 1) := dz_at dqL_law_p342g2 8 rfl
theorem dL_law_763 : decode cL_law 763 = .ok (.aload_n 2, 1) := dz_at dqL_law_p342g2 9 rfl
theorem dL_law_764 : decode cL_law 764 = .ok (.aload_n 0, 1) := dz_at dqL_law_p342g2 10 rfl
theorem dL_law_765 : decode cL_law 765 = .ok (.iload_n 3, 1) := dz_at dqL_law_p342g2 11 rfl
theorem dL_law_766 : decode cL_law 766 = .ok (.iconst 1, 1) := dz_at dqL_law_p342g2 12 rfl
theorem dL_law_767 : decode cL_law 767 = .ok (.iadd, 1) := dz_at dqL_law_p342g2 13 rfl
set_option maxRecDepth 20000 in
theorem dqL_law_p342g3 : dz_rn 768 (cL_law.data.toList.drop 768) [(0, 10), (3, 1), (0, 24), (4, 0), (0, 5), (0, 4), (0, 3), (0, 9), (0, 11), (0, 10), (0, 4), (0, 3), (0, 14), (0, 11)] = some [(768, .iaload, 1), (769, .invokevirtual 99, 3), (772, .pop, 1), (773, .goto 475, 3), (776, .aload_n 1, 1), (777, .aload_n 0, 1), (778, .iload_n 3, 1), (779, .iconst 1, 1), (780, .iadd, 1), (781, .iaload, 1), (782, .aload_n 0, 1), (783, .iload_n 3, 1), (784, .iconst 2, 1), (785, .iadd, 1)] := by decide +kernel
theorem dL_law_768 : decode cL_law 768 = .ok (.iaload, 1) := dz_at dqL_law_p342g3 0 rfl
theorem dL_law_769 : decode cL_law 769 = .ok (.invokevirtual 99, 3) := dz_at dqL_law_p342g3 1 rfl
theorem dL_law_772 : decode cL_law 772 = .ok (.pop, 1) := dz_at dqL_law_p342g3 2 rfl
theorem dL_law_773 : decode cL_law 773 = .ok (.goto 475, 3) := dz_at dqL_law_p342g3 3 rfl
theorem dL_law_776 : decode cL_law 776 = .ok (.aload_n 1, 1) := dz_at dqL_law_p342g3 4 rfl
theorem dL_law_777 : decode cL_law 777 = .ok (.aload_n 0, 1) := dz_at dqL_law_p342g3 5 rfl
theorem dL_law_778 : decode cL_law 778 = .ok (.iload_n 3, 1) := dz_at dqL_law_p342g3 6 rfl
theorem dL_law_779 : decode cL_law 779 = .ok (.iconst 1, 1) := dz_at dqL_law_p342g3 7 rfl
theorem dL_law_780 : decode cL_law 780 = .ok (.iadd, 1) := dz_at dqL_law_p342g3 8 rfl
theorem dL_law_781 : decode cL_law 781 = .ok (.iaload, 1) := dz_at dqL_law_p342g3 9 rfl
theorem dL_law_782 : decode cL_law 782 = .ok (.aload_n 0, 1) := dz_at dqL_law_p342g3 10 rfl
theorem dL_law_783 : decode cL_law 783 = .ok (.iload_n 3, 1) := dz_at dqL_law_p342g3 11 rfl
theorem dL_law_784 : decode cL_law 784 = .ok (.iconst 2, 1) := dz_at dqL_law_p342g3 12 rfl
theorem dL_law_785 : decode cL_law 785 = .ok (.iadd, 1) := dz_at dqL_law_p342g3 13 rfl
set_option maxRecDepth 20000 in
theorem dqL_law_p342g4 : dz_rn 786 (cL_law.data.toList.drop 786) [(0, 10), (0, 4), (0, 3), (0, 15), (0, 11), (0, 10), (3, 1), (0, 24), (0, 6), (0, 4), (0, 3), (0, 9), (0, 11), (0, 10)] = some [(786, .iaload, 1), (787, .aload_n 0, 1), (788, .iload_n 3, 1), (789, .iconst 3, 1), (790, .iadd, 1), (791, .iaload, 1), (792, .invokevirtual 100, 3), (795, .pop, 1), (796, .aload_n 2, 1), (797, .aload_n 0, 1), (798, .iload_n 3, 1), (799, .iconst 1, 1), (800, .iadd, 1), (801, .iaload, 1)] := by decide +kernel
theorem dL_law_786 : decode cL_law 786 = .ok (.iaload, 1) := dz_at dqL_law_p342g4 0 rfl
theorem dL_law_787 : decode cL_law 787 = .ok (.aload_n 0, 1) := dz_at dqL_law_p342g4 1 rfl
theorem dL_law_788 : decode cL_law 788 = .ok (.iload_n 3, 1) := dz_at dqL_law_p342g4 2 rfl
theorem dL_law_789 : decode cL_law 789 = .ok (.iconst 3, 1) := dz_at dqL_law_p342g4 3 rfl
theorem dL_law_790 : decode cL_law 790 = .ok (.iadd, 1) := dz_at dqL_law_p342g4 4 rfl
theorem dL_law_791 : decode cL_law 791 = .ok (.iaload, 1) := dz_at dqL_law_p342g4 5 rfl
theorem dL_law_792 : decode cL_law 792 = .ok (.invokevirtual 100, 3) := dz_at dqL_law_p342g4 6 rfl
theorem dL_law_795 : decode cL_law 795 = .ok (.pop, 1) := dz_at dqL_law_p342g4 7 rfl
theorem dL_law_796 : decode cL_law 796 = .ok (.aload_n 2, 1) := dz_at dqL_law_p342g4 8 rfl
theorem dL_law_797 : decode cL_law 797 = .ok (.aload_n 0, 1) := dz_at dqL_law_p342g4 9 rfl
theorem dL_law_798 : decode cL_law 798 = .ok (.iload_n 3, 1) := dz_at dqL_law_p342g4 10 rfl
theorem dL_law_799 : decode cL_law 799 = .ok (.iconst 1, 1) := dz_at dqL_law_p342g4 11 rfl
theorem dL_law_800 : decode cL_law 800 = .ok (.iadd, 1) := dz_at dqL_law_p342g4 12 rfl
theorem dL_law_801 : decode cL_law 801 = .ok (.iaload, 1) := dz_at dqL_law_p342g4 13 rfl
set_option maxRecDepth 20000 in
theorem dqL_law_p342g5 : dz_rn 802 (cL_law.data.toList.drop 802) [(0, 4), (0, 3), (0, 14), (0, 11)] = some [(802, .aload_n 0, 1), (803, .iload_n 3, 1), (804, .iconst 2, 1), (805, .iadd, 1)] := by decide +kernel
theorem dL_law_802 : decode cL_law 802 = .ok (.aload_n 0, 1) := dz_at dqL_law_p342g5 0 rfl
theorem dL_law_803 : decode cL_law 803 = .ok (.iload_n 3, 1) := dz_at dqL_law_p342g5 1 rfl
theorem dL_law_804 : decode cL_law 804 = .ok (.iconst 2, 1) := dz_at dqL_law_p342g5 2 rfl
theorem dL_law_805 : decode cL_law 805 = .ok (.iadd, 1) := dz_at dqL_law_p342g5 3 rfl
end
section
set_option maxRecDepth 20000 in
theorem dqL_law_p342h0 : dz_rn 806 (cL_law.data.toList.drop 806) [(0, 10), (0, 4), (0, 3), (0, 15), (0, 11), (0, 10), (3, 1), (0, 24), (4, 0), (0, 5), (0, 4), (0, 3), (0, 9), (0, 11)] = some [(806, .iaload, 1), (807, .aload_n 0, 1), (808, .iload_n 3, 1), (809, .iconst 3, 1), (810, .iadd, 1), (811, .iaload, 1), (812, .invokevirtual 104, 3), (815, .pop, 1), (816, .goto 432, 3), (819, .aload_n 1, 1), (820, .aload_n 0, 1), (821, .iload_n 3, 1), (822, .iconst 1, 1), (823, .iadd, 1)] := by decide +kernel
theorem dL_law_806 : decode cL_law 806 = .ok (.iaload, 1) := dz_at dqL_law_p342h0 0 rfl
theorem dL_law_807 : decode cL_law 807 = .ok (.aload_n 0, 1) := dz_at dqL_law_p342h0 1 rfl
theorem dL_law_808 : decode cL_law 808 = .ok (.iload_n 3, 1) := dz_at dqL_law_p342h0 2 rfl
theorem dL_law_809 : decode cL_law 809 = .ok (.iconst 3, 1) := dz_at dqL_law_p342h0 3 rfl
theorem dL_law_810 : decode cL_law 810 = .ok (.iadd, 1) := dz_at dqL_law_p342h0 4 rfl
theorem dL_law_811 : decode cL_law 811 = .ok (.iaload, 1) := dz_at dqL_law_p342h0 5 rfl
theorem dL_law_812 : decode cL_law 812 = .ok (.invokevirtual 104, 3) := dz_at dqL_law_p342h0 6 rfl
theorem dL_law_815 : decode cL_law 815 = .ok (.pop, 1) := dz_at dqL_law_p342h0 7 rfl
theorem dL_law_816 : decode cL_law 816 = .ok (.goto 432, 3) := dz_at dqL_law_p342h0 8 rfl
theorem dL_law_819 : decode cL_law 819 = .ok (.aload_n 1, 1) := dz_at dqL_law_p342h0 9 rfl
theorem dL_law_820 : decode cL_law 820 = .ok (.aload_n 0, 1) := dz_at dqL_law_p342h0 10 rfl
theorem dL_law_821 : decode cL_law 821 = .ok (.iload_n 3, 1) := dz_at dqL_law_p342h0 11 rfl
theorem dL_law_822 : decode cL_law 822 = .ok (.iconst 1, 1) := dz_at dqL_law_p342h0 12 rfl
theorem dL_law_823 : decode cL_law 823 = .ok (.iadd, 1) := dz_at dqL_law_p342h0 13 rfl
set_option maxRecDepth 20000 in
theorem dqL_law_p342h1 : dz_rn 824 (cL_law.data.toList.drop 824) [(0, 10), (0, 4), (0, 3), (0, 14), (0, 11), (0, 10), (0, 4), (0, 3), (0, 15), (0, 11), (0, 10), (3, 1), (0, 24), (0, 6)] = some [(824, .iaload, 1), (825, .aload_n 0, 1), (826, .iload_n 3, 1), (827, .iconst 2, 1), (828, .iadd, 1), (829, .iaload, 1), (830, .aload_n 0, 1), (831, .iload_n 3, 1), (832, .iconst 3, 1), (833, .iadd, 1), (834, .iaload, 1), (835, .invokevirtual 105, 3), (838, .pop, 1), (839, .aload_n 2, 1)] := by decide +kernel
theorem dL_law_824 : decode cL_law 824 = .ok (.iaload, 1) := dz_at dqL_law_p342h1 0 rfl
theorem dL_law_825 : decode cL_law 825 = .ok (.aload_n 0, 1) := dz_at dqL_law_p342h1 1 rfl
theorem dL_law_826 : decode cL_law 826 = .ok (.iload_n 3, 1) := dz_at dqL_law_p342h1 2 rfl
theorem dL_law_827 : decode cL_law 827 = .ok (.iconst 2, 1) := dz_at dqL_law_p342h1 3 rfl
theorem dL_law_828 : decode cL_law 828 = .ok (.iadd, 1) := dz_at dqL_law_p342h1 4 rfl
theorem dL_law_829 : decode cL_law 829 = .ok (.iaload, 1) := dz_at dqL_law_p342h1 5 rfl
theorem dL_law_830 : decode cL_law 830 = .ok (.aload_n 0, 1) := dz_at dqL_law_p342h1 6 rfl
theorem dL_law_831 : decode cL_law 831 = .ok (.iload_n 3, 1) := dz_at dqL_law_p342h1 7 rfl
theorem dL_law_832 : decode cL_law 832 = .ok (.iconst 3, 1) := dz_at dqL_law_p342h1 8 rfl
theorem dL_law_833 : decode cL_law 833 = .ok (.iadd, 1) := dz_at dqL_law_p342h1 9 rfl
theorem dL_law_834 : decode cL_law 834 = .ok (.iaload, 1) := dz_at dqL_law_p342h1 10 rfl
theorem dL_law_835 : decode cL_law 835 = .ok (.invokevirtual 105, 3) := dz_at dqL_law_p342h1 11 rfl
theorem dL_law_838 : decode cL_law 838 = .ok (.pop, 1) := dz_at dqL_law_p342h1 12 rfl
theorem dL_law_839 : decode cL_law 839 = .ok (.aload_n 2, 1) := dz_at dqL_law_p342h1 13 rfl
set_option maxRecDepth 20000 in
theorem dqL_law_p342h2 : dz_rn 840 (cL_law.data.toList.drop 840) [(0, 4), (0, 3), (0, 9), (0, 11), (0, 10), (0, 4), (0, 3), (0, 14), (0, 11), (0, 10), (0, 4), (0, 3), (0, 15), (0, 11)] = some [(840, .aload_n 0, 1), (841, .iload_n 3, 1), (842, .iconst 1, 1), (843, .iadd, 1), (844, .iaload, 1), (845, .aload_n 0, 1), (846, .iload_n 3, 1), (847, .iconst 2, 1), (848, .iadd, 1), (849, .iaload, 1), (850, .aload_n 0, 1), (851, .iload_n 3, 1), (852, .iconst 3, 1), (853, .iadd, 1)] := by decide +kernel
theorem dL_law_840 : decode cL_law 840 = .ok (.aload_n 0, 1) := dz_at dqL_law_p342h2 0 rfl
theorem dL_law_841 : decode cL_law 841 = .ok (.iload_n 3, 1) := dz_at dqL_law_p342h2 1 rfl
theorem dL_law_842 : decode cL_law 842 = .ok (.iconst 1, 1) := dz_at dqL_law_p342h2 2 rfl
theorem dL_law_843 : decode cL_law 843 = .ok (.iadd, 1) := dz_at dqL_law_p342h2 3 rfl
theorem dL_law_844 : decode cL_law 844 = .ok (.iaload, 1) := dz_at dqL_law_p342h2 4 rfl
theorem dL_law_845 : decode cL_law 845 = .ok (.aload_n 0, 1) := dz_at dqL_law_p342h2 5 rfl
theorem dL_law_846 : decode cL_law 846 = .ok (.iload_n 3, 1) := dz_at dqL_law_p342h2 6 rfl
theorem dL_law_847 : decode cL_law 847 = .ok (.iconst 2, 1) := dz_at dqL_law_p342h2 7 rfl
theorem dL_law_848 : decode cL_law 848 = .ok (.iadd, 1) := dz_at dqL_law_p342h2 8 rfl
theorem dL_law_849 : decode cL_law 849 = .ok (.iaload, 1) := dz_at dqL_law_p342h2 9 rfl
theorem dL_law_850 : decode cL_law 850 = .ok (.aload_n 0, 1) := dz_at dqL_law_p342h2 10 rfl
theorem dL_law_851 : decode cL_law 851 = .ok (.iload_n 3, 1) := dz_at dqL_law_p342h2 11 rfl
theorem dL_law_852 : decode cL_law 852 = .ok (.iconst 3, 1) := dz_at dqL_law_p342h2 12 rfl
theorem dL_law_853 : decode cL_law 853 = .ok (.iadd, 1) := dz_at dqL_law_p342h2 13 rfl
set_option maxRecDepth 20000 in
theorem dqL_law_p342h3 : dz_rn 854 (cL_law.data.toList.drop 854) [(0, 10), (3, 1), (0, 24), (4, 0), (0, 5), (0, 4), (0, 3), (0, 9), (0, 11), (0, 10), (0, 4), (0, 3), (0, 14), (0, 11)] = some [(854, .iaload, 1), (855, .invokevirtual 108, 3), (858, .pop, 1), (859, .goto 389, 3), (862, .aload_n 1, 1), (863, .aload_n 0, 1), (864, .iload_n 3, 1), (865, .iconst 1, 1), (866, .iadd, 1), (867, .iaload, 1), (868, .aload_n 0, 1), (869, .iload_n 3, 1), (870, .iconst 2, 1), (871, .iadd, 1)] := by decide +kernel
theorem dL_law_854 : decode cL_law 854 = .ok (.iaload, 1) := dz_at dqL_law_p342h3 0 rfl
theorem dL_law_855 : decode cL_law 855 = .ok (.invokevirtual 108, 3) := dz_at dqL_law_p342h3 1 rfl
theorem dL_law_858 : decode cL_law 858 = .ok (.pop, 1) := dz_at dqL_law_p342h3 2 rfl
theorem dL_law_859 : decode cL_law 859 = .ok (.goto 389, 3) := dz_at dqL_law_p342h3 3 rfl
theorem dL_law_862 : decode cL_law 862 = .ok (.aload_n 1, 1) := dz_at dqL_law_p342h3 4 rfl
theorem dL_law_863 : decode cL_law 863 = .ok (.aload_n 0, 1) := dz_at dqL_law_p342h3 5 rfl
theorem dL_law_864 : decode cL_law 864 = .ok (.iload_n 3, 1) := dz_at dqL_law_p342h3 6 rfl
theorem dL_law_865 : decode cL_law 865 = .ok (.iconst 1, 1) := dz_at dqL_law_p342h3 7 rfl
theorem dL_law_866 : decode cL_law 866 = .ok (.iadd, 1) := dz_at dqL_law_p342h3 8 rfl
theorem dL_law_867 : decode cL_law 867 = .ok (.iaload, 1) := dz_at dqL_law_p342h3 9 rfl
theorem dL_law_868 : decode cL_law 868 = .ok (.aload_n 0, 1) := dz_at dqL_law_p342h3 10 rfl
theorem dL_law_869 : decode cL_law 869 = .ok (.iload_n 3, 1) := dz_at dqL_law_p342h3 11 rfl
theorem dL_law_870 : decode cL_law 870 = .ok (.iconst 2, 1) := dz_at dqL_law_p342h3 12 rfl
theorem dL_law_871 : decode cL_law 871 = .ok (.iadd, 1) := dz_at dqL_law_p342h3 13 rfl
set_option maxRecDepth 20000 in
theorem dqL_law_p342h4 : dz_rn 872 (cL_law.data.toList.drop 872) [(0, 10), (3, 1), (0, 24), (0, 6), (0, 4), (0, 3), (0, 9), (0, 11), (0, 10), (0, 4), (0, 3), (0, 14), (0, 11), (0, 10)] = some [(872, .iaload, 1), (873, .invokevirtual 109, 3), (876, .pop, 1), (877, .aload_n 2, 1), (878, .aload_n 0, 1), (879, .iload_n 3, 1), (880, .iconst 1, 1), (881, .iadd, 1), (882, .iaload, 1), (883, .aload_n 0, 1), (884, .iload_n 3, 1), (885, .iconst 2, 1), (886, .iadd, 1), (887, .iaload, 1)] := by decide +kernel
theorem dL_law_872 : decode cL_law 872 = .ok (.iaload, 1) := dz_at dqL_law_p342h4 0 rfl
theorem dL_law_873 : decode cL_law 873 = .ok (.invokevirtual 109, 3) := dz_at dqL_law_p342h4 1 rfl
theorem dL_law_876 : decode cL_law 876 = .ok (.pop, 1) := dz_at dqL_law_p342h4 2 rfl
theorem dL_law_877 : decode cL_law 877 = .ok (.aload_n 2, 1) := dz_at dqL_law_p342h4 3 rfl
theorem dL_law_878 : decode cL_law 878 = .ok (.aload_n 0, 1) := dz_at dqL_law_p342h4 4 rfl
theorem dL_law_879 : decode cL_law 879 = .ok (.iload_n 3, 1) := dz_at dqL_law_p342h4 5 rfl
theorem dL_law_880 : decode cL_law 880 = .ok (.iconst 1, 1) := dz_at dqL_law_p342h4 6 rfl
theorem dL_law_881 : decode cL_law 881 = .ok (.iadd, 1) := dz_at dqL_law_p342h4 7 rfl
theorem dL_law_882 : decode cL_law 882 = .ok (.iaload, 1) := dz_at dqL_law_p342h4 8 rfl
theorem dL_law_883 : decode cL_law 883 = .ok (.aload_n 0, 1) := dz_at dqL_law_p342h4 9 rfl
theorem dL_law_884 : decode cL_law 884 = .ok (.iload_n 3, 1) := dz_at dqL_law_p342h4 10 rfl
theorem dL_law_885 : decode cL_law 885 = .ok (.iconst 2, 1) := dz_at dqL_law_p342h4 11 rfl
theorem dL_law_886 : decode cL_law 886 = .ok (.iadd, 1) := dz_at dqL_law_p342h4 12 rfl
theorem dL_law_887 : decode cL_law 887 = .ok (.iaload, 1) := dz_at dqL_law_p342h4 13 rfl
set_option maxRecDepth 20000 in
theorem dqL_law_p342h5 : dz_rn 888 (cL_law.data.toList.drop 888) [(3, 1), (0, 24), (4, 0), (0, 5)] = some [(888, .invokevirtual 112, 3), (891, .pop, 1), (892, .goto 356, 3), (895, .aload_n 1, 1)] := by decide +kernel
theorem dL_law_888 : decode cL_law 888 = .ok (.invokevirtual 112, 3) := dz_at dqL_law_p342h5 0 rfl
theorem dL_law_891 : decode cL_law 891 = .ok (.pop, 1) := dz_at dqL_law_p342h5 1 rfl
theorem dL_law_892 : decode cL_law 892 = .ok (.goto 356, 3) := dz_at dqL_law_p342h5 2 rfl
theorem dL_law_895 : decode cL_law 895 = .ok (.aload_n 1, 1) := dz_at dqL_law_p342h5 3 rfl
end
section
set_option maxRecDepth 20000 in
theorem dqL_law_p342i0 : dz_rn 896 (cL_law.data.toList.drop 896) [(0, 4), (0, 3), (0, 9), (0, 11), (0, 10), (0, 4), (0, 3), (0, 14), (0, 11), (0, 10), (3, 1), (0, 24), (0, 6), (0, 4)] = some [(896, .aload_n 0, 1), (897, .iload_n 3, 1), (898, .iconst 1, 1), (899, .iadd, 1), (900, .iaload, 1), (901, .aload_n 0, 1), (902, .iload_n 3, 1), (903, .iconst 2, 1), (904, .iadd, 1), (905, .iaload, 1), (906, .invokevirtual 113, 3), (909, .pop, 1), (910, .aload_n 2, 1), (911, .aload_n 0, 1)] := by decide +kernel
theorem dL_law_896 : decode cL_law 896 = .ok (.aload_n 0, 1) := dz_at dqL_law_p342i0 0 rfl
theorem dL_law_897 : decode cL_law 897 = .ok (.iload_n 3, 1) := dz_at dqL_law_p342i0 1 rfl
theorem dL_law_898 : decode cL_law 898 = .ok (.iconst 1, 1) := dz_at dqL_law_p342i0 2 rfl
theorem dL_law_899 : decode cL_law 899 = .ok (.iadd, 1) := dz_at dqL_law_p342i0 3 rfl
theorem dL_law_900 : decode cL_law 900 = .ok (.iaload, 1) := dz_at dqL_law_p342i0 4 rfl
theorem dL_law_901 : decode cL_law 901 = .ok (.aload_n 0, 1) := dz_at dqL_law_p342i0 5 rfl
theorem dL_law_902 : decode cL_law 902 = .ok (.iload_n 3, 1) := dz_at dqL_law_p342i0 6 rfl
theorem dL_law_903 : decode cL_law 903 = .ok (.iconst 2, 1) := dz_at dqL_law_p342i0 7 rfl
theorem dL_law_904 : decode cL_law 904 = .ok (.iadd, 1) := dz_at dqL_law_p342i0 8 rfl
theorem dL_law_905 : decode cL_law 905 = .ok (.iaload, 1) := dz_at dqL_law_p342i0 9 rfl
theorem dL_law_906 : decode cL_law 906 = .ok (.invokevirtual 113, 3) := dz_at dqL_law_p342i0 10 rfl
theorem dL_law_909 : decode cL_law 909 = .ok (.pop, 1) := dz_at dqL_law_p342i0 11 rfl
theorem dL_law_910 : decode cL_law 910 = .ok (.aload_n 2, 1) := dz_at dqL_law_p342i0 12 rfl
theorem dL_law_911 : decode cL_law 911 = .ok (.aload_n 0, 1) := dz_at dqL_law_p342i0 13 rfl
set_option maxRecDepth 20000 in
theorem dqL_law_p342i1 : dz_rn 912 (cL_law.data.toList.drop 912) [(0, 3), (0, 9), (0, 11), (0, 10), (0, 4), (0, 3), (0, 14), (0, 11), (0, 10), (3, 1), (0, 24), (4, 0), (0, 5), (0, 4)] = some [(912, .iload_n 3, 1), (913, .iconst 1, 1), (914, .iadd, 1), (915, .iaload, 1), (916, .aload_n 0, 1), (917, .iload_n 3, 1), (918, .iconst 2, 1), (919, .iadd, 1), (920, .iaload, 1), (921, .invokevirtual 116, 3), (924, .pop, 1), (925, .goto 323, 3), (928, .aload_n 1, 1), (929, .aload_n 0, 1)] := by decide +kernel
theorem dL_law_912 : decode cL_law 912 = .ok (.iload_n 3, 1) := dz_at dqL_law_p342i1 0 rfl
theorem dL_law_913 : decode cL_law 913 = .ok (.iconst 1, 1) := dz_at dqL_law_p342i1 1 rfl
theorem dL_law_914 : decode cL_law 914 = .ok (.iadd, 1) := dz_at dqL_law_p342i1 2 rfl
theorem dL_law_915 : decode cL_law 915 = .ok (.iaload, 1) := dz_at dqL_law_p342i1 3 rfl
theorem dL_law_916 : decode cL_law 916 = .ok (.aload_n 0, 1) := dz_at dqL_law_p342i1 4 rfl
theorem dL_law_917 : decode cL_law 917 = .ok (.iload_n 3, 1) := dz_at dqL_law_p342i1 5 rfl
theorem dL_law_918 : decode cL_law 918 = .ok (.iconst 2, 1) := dz_at dqL_law_p342i1 6 rfl
theorem dL_law_919 : decode cL_law 919 = .ok (.iadd, 1) := dz_at dqL_law_p342i1 7 rfl
theorem dL_law_920 : decode cL_law 920 = .ok (.iaload, 1) := dz_at dqL_law_p342i1 8 rfl
theorem dL_law_921 : decode cL_law 921 = .ok (.invokevirtual 116, 3) := dz_at dqL_law_p342i1 9 rfl
theorem dL_law_924 : decode cL_law 924 = .ok (.pop, 1) := dz_at dqL_law_p342i1 10 rfl
theorem dL_law_925 : decode cL_law 925 = .ok (.goto 323, 3) := dz_at dqL_law_p342i1 11 rfl
theorem dL_law_928 : decode cL_law 928 = .ok (.aload_n 1, 1) := dz_at dqL_law_p342i1 12 rfl
theorem dL_law_929 : decode cL_law 929 = .ok (.aload_n 0, 1) := dz_at dqL_law_p342i1 13 rfl
set_option maxRecDepth 20000 in
theorem dqL_law_p342i2 : dz_rn 930 (cL_law.data.toList.drop 930) [(0, 3), (0, 9), (0, 11), (0, 10), (0, 4), (0, 3), (0, 14), (0, 11), (0, 10), (3, 1), (0, 24), (0, 6), (0, 4), (0, 3)] = some [(930, .iload_n 3, 1), (931, .iconst 1, 1), (932, .iadd, 1), (933, .iaload, 1), (934, .aload_n 0, 1), (935, .iload_n 3, 1), (936, .iconst 2, 1), (937, .iadd, 1), (938, .iaload, 1), (939, .invokevirtual 117, 3), (942, .pop, 1), (943, .aload_n 2, 1), (944, .aload_n 0, 1), (945, .iload_n 3, 1)] := by decide +kernel
theorem dL_law_930 : decode cL_law 930 = .ok (.iload_n 3, 1) := dz_at dqL_law_p342i2 0 rfl
theorem dL_law_931 : decode cL_law 931 = .ok (.iconst 1, 1) := dz_at dqL_law_p342i2 1 rfl
theorem dL_law_932 : decode cL_law 932 = .ok (.iadd, 1) := dz_at dqL_law_p342i2 2 rfl
theorem dL_law_933 : decode cL_law 933 = .ok (.iaload, 1) := dz_at dqL_law_p342i2 3 rfl
theorem dL_law_934 : decode cL_law 934 = .ok (.aload_n 0, 1) := dz_at dqL_law_p342i2 4 rfl
theorem dL_law_935 : decode cL_law 935 = .ok (.iload_n 3, 1) := dz_at dqL_law_p342i2 5 rfl
theorem dL_law_936 : decode cL_law 936 = .ok (.iconst 2, 1) := dz_at dqL_law_p342i2 6 rfl
theorem dL_law_937 : decode cL_law 937 = .ok (.iadd, 1) := dz_at dqL_law_p342i2 7 rfl
theorem dL_law_938 : decode cL_law 938 = .ok (.iaload, 1) := dz_at dqL_law_p342i2 8 rfl
theorem dL_law_939 : decode cL_law 939 = .ok (.invokevirtual 117, 3) := dz_at dqL_law_p342i2 9 rfl
theorem dL_law_942 : decode cL_law 942 = .ok (.pop, 1) := dz_at dqL_law_p342i2 10 rfl
theorem dL_law_943 : decode cL_law 943 = .ok (.aload_n 2, 1) := dz_at dqL_law_p342i2 11 rfl
theorem dL_law_944 : decode cL_law 944 = .ok (.aload_n 0, 1) := dz_at dqL_law_p342i2 12 rfl
theorem dL_law_945 : decode cL_law 945 = .ok (.iload_n 3, 1) := dz_at dqL_law_p342i2 13 rfl
set_option maxRecDepth 20000 in
theorem dqL_law_p342i3 : dz_rn 946 (cL_law.data.toList.drop 946) [(0, 9), (0, 11), (0, 10), (0, 4), (0, 3), (0, 14), (0, 11), (0, 10), (3, 1), (0, 24), (4, 0), (0, 5), (0, 4), (0, 3)] = some [(946, .iconst 1, 1), (947, .iadd, 1), (948, .iaload, 1), (949, .aload_n 0, 1), (950, .iload_n 3, 1), (951, .iconst 2, 1), (952, .iadd, 1), (953, .iaload, 1), (954, .invokevirtual 120, 3), (957, .pop, 1), (958, .goto 290, 3), (961, .aload_n 1, 1), (962, .aload_n 0, 1), (963, .iload_n 3, 1)] := by decide +kernel
theorem dL_law_946 : decode cL_law 946 = .ok (.iconst 1, 1) := dz_at dqL_law_p342i3 0 rfl
theorem dL_law_947 : decode cL_law 947 = .ok (.iadd, 1) := dz_at dqL_law_p342i3 1 rfl
theorem dL_law_948 : decode cL_law 948 = .ok (.iaload, 1) := dz_at dqL_law_p342i3 2 rfl
theorem dL_law_949 : decode cL_law 949 = .ok (.aload_n 0, 1) := dz_at dqL_law_p342i3 3 rfl
theorem dL_law_950 : decode cL_law 950 = .ok (.iload_n 3, 1) := dz_at dqL_law_p342i3 4 rfl
theorem dL_law_951 : decode cL_law 951 = .ok (.iconst 2, 1) := dz_at dqL_law_p342i3 5 rfl
theorem dL_law_952 : decode cL_law 952 = .ok (.iadd, 1) := dz_at dqL_law_p342i3 6 rfl
theorem dL_law_953 : decode cL_law 953 = .ok (.iaload, 1) := dz_at dqL_law_p342i3 7 rfl
theorem dL_law_954 : decode cL_law 954 = .ok (.invokevirtual 120, 3) := dz_at dqL_law_p342i3 8 rfl
theorem dL_law_957 : decode cL_law 957 = .ok (.pop, 1) := dz_at dqL_law_p342i3 9 rfl
theorem dL_law_958 : decode cL_law 958 = .ok (.goto 290, 3) := dz_at dqL_law_p342i3 10 rfl
theorem dL_law_961 : decode cL_law 961 = .ok (.aload_n 1, 1) := dz_at dqL_law_p342i3 11 rfl
theorem dL_law_962 : decode cL_law 962 = .ok (.aload_n 0, 1) := dz_at dqL_law_p342i3 12 rfl
theorem dL_law_963 : decode cL_law 963 = .ok (.iload_n 3, 1) := dz_at dqL_law_p342i3 13 rfl
set_option maxRecDepth 20000 in
theorem dqL_law_p342i4 : dz_rn 964 (cL_law.data.toList.drop 964) [(0, 9), (0, 11), (0, 10), (0, 4), (0, 3), (0, 14), (0, 11), (0, 10), (3, 1), (0, 24), (0, 6), (0, 4), (0, 3), (0, 9)] = some [(964, .iconst 1, 1), (965, .iadd, 1), (966, .iaload, 1), (967, .aload_n 0, 1), (968, .iload_n 3, 1), (969, .iconst 2, 1), (970, .iadd, 1), (971, .iaload, 1), (972, .invokevirtual 121, 3), (975, .pop, 1), (976, .aload_n 2, 1), (977, .aload_n 0, 1), (978, .iload_n 3, 1), (979, .iconst 1, 1)] := by decide +kernel
theorem dL_law_964 : decode cL_law 964 = .ok (.iconst 1, 1) := dz_at dqL_law_p342i4 0 rfl
theorem dL_law_965 : decode cL_law 965 = .ok (.iadd, 1) := dz_at dqL_law_p342i4 1 rfl
theorem dL_law_966 : decode cL_law 966 = .ok (.iaload, 1) := dz_at dqL_law_p342i4 2 rfl
theorem dL_law_967 : decode cL_law 967 = .ok (.aload_n 0, 1) := dz_at dqL_law_p342i4 3 rfl
theorem dL_law_968 : decode cL_law 968 = .ok (.iload_n 3, 1) := dz_at dqL_law_p342i4 4 rfl
theorem dL_law_969 : decode cL_law 969 = .ok (.iconst 2, 1) := dz_at dqL_law_p342i4 5 rfl
theorem dL_law_970 : decode cL_law 970 = .ok (.iadd, 1) := dz_at dqL_law_p342i4 6 rfl
theorem dL_law_971 : decode cL_law 971 = .ok (.iaload, 1) := dz_at dqL_law_p342i4 7 rfl
theorem dL_law_972 : decode cL_law 972 = .ok (.invokevirtual 121, 3) := dz_at dqL_law_p342i4 8 rfl
theorem dL_law_975 : decode cL_law 975 = .ok (.pop, 1) := dz_at dqL_law_p342i4 9 rfl
theorem dL_law_976 : decode cL_law 976 = .ok (.aload_n 2, 1) := dz_at dqL_law_p342i4 10 rfl
theorem dL_law_977 : decode cL_law 977 = .ok (.aload_n 0, 1) := dz_at dqL_law_p342i4 11 rfl
theorem dL_law_978 : decode cL_law 978 = .ok (.iload_n 3, 1) := dz_at dqL_law_p342i4 12 rfl
theorem dL_law_979 : decode cL_law 979 = .ok (.iconst 1, 1) := dz_at dqL_law_p342i4 13 rfl
set_option maxRecDepth 20000 in
theorem dqL_law_p342i5 : dz_rn 980 (cL_law.data.toList.drop 980) [(0, 11), (0, 10), (0, 4), (0, 3)] = some [(980, .iadd, 1), (981, .iaload, 1), (982, .aload_n 0, 1), (983, .iload_n 3, 1)] := by decide +kernel
theorem dL_law_980 : decode cL_law 980 = .ok (.iadd, 1) := dz_at dqL_law_p342i5 0 rfl
theorem dL_law_981 : decode cL_law 981 = .ok (.iaload, 1) := dz_at dqL_law_p342i5 1 rfl
theorem dL_law_982 : decode cL_law 982 = .ok (.aload_n 0, 1) := dz_at dqL_law_p342i5 2 rfl
theorem dL_law_983 : decode cL_law 983 = .ok (.iload_n 3, 1) := dz_at dqL_law_p342i5 3 rfl
end
section
set_option maxRecDepth 20000 in
theorem dqL_law_p342j0 : dz_rn 984 (cL_law.data.toList.drop 984) [(0, 14), (0, 11), (0, 10), (3, 1), (0, 24), (4, 0), (0, 5), (0, 4), (0, 3), (0, 9), (0, 11), (0, 10), (0, 4), (0, 3)] = some [(984, .iconst 2, 1), (985, .iadd, 1), (986, .iaload, 1), (987, .invokevirtual 124, 3), (990, .pop, 1), (991, .goto 257, 3), (994, .aload_n 1, 1), (995, .aload_n 0, 1), (996, .iload_n 3, 1), (997, .iconst 1, 1), (998, .iadd, 1), (999, .iaload, 1), (1000, .aload_n 0, 1), (1001, .iload_n 3, 1)] := by decide +kernel
theorem dL_law_984 : decode cL_law 984 = .ok (.iconst 2, 1) := dz_at dqL_law_p342j0 0 rfl
theorem dL_law_985 : decode cL_law 985 = .ok (.iadd, 1) := dz_at dqL_law_p342j0 1 rfl
theorem dL_law_986 : decode cL_law 986 = .ok (.iaload, 1) := dz_at dqL_law_p342j0 2 rfl
theorem dL_law_987 : decode cL_law 987 = .ok (.invokevirtual 124, 3) := dz_at dqL_law_p342j0 3 rfl
theorem dL_law_990 : decode cL_law 990 = .ok (.pop, 1) := dz_at dqL_law_p342j0 4 rfl
theorem dL_law_991 : decode cL_law 991 = .ok (.goto 257, 3) := dz_at dqL_law_p342j0 5 rfl
theorem dL_law_994 : decode cL_law 994 = .ok (.aload_n 1, 1) := dz_at dqL_law_p342j0 6 rfl
theorem dL_law_995 : decode cL_law 995 = .ok (.aload_n 0, 1) := dz_at dqL_law_p342j0 7 rfl
theorem dL_law_996 : decode cL_law 996 = .ok (.iload_n 3, 1) := dz_at dqL_law_p342j0 8 rfl
theorem dL_law_997 : decode cL_law 997 = .ok (.iconst 1, 1) := dz_at dqL_law_p342j0 9 rfl
theorem dL_law_998 : decode cL_law 998 = .ok (.iadd, 1) := dz_at dqL_law_p342j0 10 rfl
theorem dL_law_999 : decode cL_law 999 = .ok (.iaload, 1) := dz_at dqL_law_p342j0 11 rfl
theorem dL_law_1000 : decode cL_law 1000 = .ok (.aload_n 0, 1) := dz_at dqL_law_p342j0 12 rfl
theorem dL_law_1001 : decode cL_law 1001 = .ok (.iload_n 3, 1) := dz_at dqL_law_p342j0 13 rfl
set_option maxRecDepth 20000 in
theorem dqL_law_p342j1 : dz_rn 1002 (cL_law.data.toList.drop 1002) [(0, 14), (0, 11), (0, 10), (0, 4), (0, 3), (0, 15), (0, 11), (0, 10), (4, 7), (0, 9), (4, 0), (0, 8), (3, 1), (0, 24)] = some [(1002, .iconst 2, 1), (1003, .iadd, 1), (1004, .iaload, 1), (1005, .aload_n 0, 1), (1006, .iload_n 3, 1), (1007, .iconst 3, 1), (1008, .iadd, 1), (1009, .iaload, 1), (1010, .ifCond .eq 7, 3), (1013, .iconst 1, 1), (1014, .goto 4, 3), (1017, .iconst 0, 1), (1018, .invokevirtual 125, 3), (1021, .pop, 1)] := by decide +kernel
theorem dL_law_1002 : decode cL_law 1002 = .ok (.iconst 2, 1) := dz_at dqL_law_p342j1 0 rfl
theorem dL_law_1003 : decode cL_law 1003 = .ok (.iadd, 1) := dz_at dqL_law_p342j1 1 rfl
theorem dL_law_1004 : decode cL_law 1004 = .ok (.iaload, 1) := dz_at dqL_law_p342j1 2 rfl
theorem dL_law_1005 : decode cL_law 1005 = .ok (.aload_n 0, 1) := dz_at dqL_law_p342j1 3 rfl
theorem dL_law_1006 : decode cL_law 1006 = .ok (.iload_n 3, 1) := dz_at dqL_law_p342j1 4 rfl
theorem dL_law_1007 : decode cL_law 1007 = .ok (.iconst 3, 1) := dz_at dqL_law_p342j1 5 rfl
theorem dL_law_1008 : decode cL_law 1008 = .ok (.iadd, 1) := dz_at dqL_law_p342j1 6 rfl
theorem dL_law_1009 : decode cL_law 1009 = .ok (.iaload, 1) := dz_at dqL_law_p342j1 7 rfl
theorem dL_law_1010 : decode cL_law 1010 = .ok (.ifCond .eq 7, 3) := dz_at dqL_law_p342j1 8 rfl
theorem dL_law_1013 : decode cL_law 1013 = .ok (.iconst 1, 1) := dz_at dqL_law_p342j1 9 rfl
theorem dL_law_1014 : decode cL_law 1014 = .ok (.goto 4, 3) := dz_at dqL_law_p342j1 10 rfl
theorem dL_law_1017 : decode cL_law 1017 = .ok (.iconst 0, 1) := dz_at dqL_law_p342j1 11 rfl
theorem dL_law_1018 : decode cL_law 1018 = .ok (.invokevirtual 125, 3) := dz_at dqL_law_p342j1 12 rfl
theorem dL_law_1021 : decode cL_law 1021 = .ok (.pop, 1) := dz_at dqL_law_p342j1 13 rfl
set_option maxRecDepth 20000 in
theorem dqL_law_p342j2 : dz_rn 1022 (cL_law.data.toList.drop 1022) [(0, 6), (0, 4), (0, 3), (0, 9), (0, 11), (0, 10), (0, 4), (0, 3), (0, 14), (0, 11), (0, 10), (0, 4), (0, 3), (0, 15)] = some [(1022, .aload_n 2, 1), (1023, .aload_n 0, 1), (1024, .iload_n 3, 1), (1025, .iconst 1, 1), (1026, .iadd, 1), (1027, .iaload, 1), (1028, .aload_n 0, 1), (1029, .iload_n 3, 1), (1030, .iconst 2, 1), (1031, .iadd, 1), (1032, .iaload, 1), (1033, .aload_n 0, 1), (1034, .iload_n 3, 1), (1035, .iconst 3, 1)] := by decide +kernel
theorem dL_law_1022 : decode cL_law 1022 = .ok (.aload_n 2, 1) := dz_at dqL_law_p342j2 0 rfl
theorem dL_law_1023 : decode cL_law 1023 = .ok (.aload_n 0, 1) := dz_at dqL_law_p342j2 1 rfl
theorem dL_law_1024 : decode cL_law 1024 = .ok (.iload_n 3, 1) := dz_at dqL_law_p342j2 2 rfl
theorem dL_law_1025 : decode cL_law 1025 = .ok (.iconst 1, 1) := dz_at dqL_law_p342j2 3 rfl
theorem dL_law_1026 : decode cL_law 1026 = .ok (.iadd, 1) := dz_at dqL_law_p342j2 4 rfl
theorem dL_law_1027 : decode cL_law 1027 = .ok (.iaload, 1) := dz_at dqL_law_p342j2 5 rfl
theorem dL_law_1028 : decode cL_law 1028 = .ok (.aload_n 0, 1) := dz_at dqL_law_p342j2 6 rfl
theorem dL_law_1029 : decode cL_law 1029 = .ok (.iload_n 3, 1) := dz_at dqL_law_p342j2 7 rfl
theorem dL_law_1030 : decode cL_law 1030 = .ok (.iconst 2, 1) := dz_at dqL_law_p342j2 8 rfl
theorem dL_law_1031 : decode cL_law 1031 = .ok (.iadd, 1) := dz_at dqL_law_p342j2 9 rfl
theorem dL_law_1032 : decode cL_law 1032 = .ok (.iaload, 1) := dz_at dqL_law_p342j2 10 rfl
theorem dL_law_1033 : decode cL_law 1033 = .ok (.aload_n 0, 1) := dz_at dqL_law_p342j2 11 rfl
theorem dL_law_1034 : decode cL_law 1034 = .ok (.iload_n 3, 1) := dz_at dqL_law_p342j2 12 rfl
theorem dL_law_1035 : decode cL_law 1035 = .ok (.iconst 3, 1) := dz_at dqL_law_p342j2 13 rfl
set_option maxRecDepth 20000 in
theorem dqL_law_p342j3 : dz_rn 1036 (cL_law.data.toList.drop 1036) [(0, 11), (0, 10), (4, 7), (0, 9), (4, 0), (0, 8), (3, 1), (0, 24), (4, 0), (0, 5), (0, 4), (0, 3), (0, 9), (0, 11)] = some [(1036, .iadd, 1), (1037, .iaload, 1), (1038, .ifCond .eq 7, 3), (1041, .iconst 1, 1), (1042, .goto 4, 3), (1045, .iconst 0, 1), (1046, .invokevirtual 129, 3), (1049, .pop, 1), (1050, .goto 198, 3), (1053, .aload_n 1, 1), (1054, .aload_n 0, 1), (1055, .iload_n 3, 1), (1056, .iconst 1, 1), (1057, .iadd, 1)] := by decide +kernel
theorem dL_law_1036 : decode cL_law 1036 = .ok (.iadd, 1) := dz_at dqL_law_p342j3 0 rfl
theorem dL_law_1037 : decode cL_law 1037 = .ok (.iaload, 1) := dz_at dqL_law_p342j3 1 rfl
theorem dL_law_1038 : decode cL_law 1038 = .ok (.ifCond .eq 7, 3) := dz_at dqL_law_p342j3 2 rfl
theorem dL_law_1041 : decode cL_law 1041 = .ok (.iconst 1, 1) := dz_at dqL_law_p342j3 3 rfl
theorem dL_law_1042 : decode cL_law 1042 = .ok (.goto 4, 3) := dz_at dqL_law_p342j3 4 rfl
theorem dL_law_1045 : decode cL_law 1045 = .ok (.iconst 0, 1) := dz_at dqL_law_p342j3 5 rfl
theorem dL_law_1046 : decode cL_law 1046 = .ok (.invokevirtual 129, 3) := dz_at dqL_law_p342j3 6 rfl
theorem dL_law_1049 : decode cL_law 1049 = .ok (.pop, 1) := dz_at dqL_law_p342j3 7 rfl
theorem dL_law_1050 : decode cL_law 1050 = .ok (.goto 198, 3) := dz_at dqL_law_p342j3 8 rfl
theorem dL_law_1053 : decode cL_law 1053 = .ok (.aload_n 1, 1) := dz_at dqL_law_p342j3 9 rfl
theorem dL_law_1054 : decode cL_law 1054 = .ok (.aload_n 0, 1) := dz_at dqL_law_p342j3 10 rfl
theorem dL_law_1055 : decode cL_law 1055 = .ok (.iload_n 3, 1) := dz_at dqL_law_p342j3 11 rfl
theorem dL_law_1056 : decode cL_law 1056 = .ok (.iconst 1, 1) := dz_at dqL_law_p342j3 12 rfl
theorem dL_law_1057 : decode cL_law 1057 = .ok (.iadd, 1) := dz_at dqL_law_p342j3 13 rfl
set_option maxRecDepth 20000 in
theorem dqL_law_p342j4 : dz_rn 1058 (cL_law.data.toList.drop 1058) [(0, 10), (0, 4), (0, 3), (0, 14), (0, 11), (0, 10), (3, 1), (0, 24), (0, 6), (0, 4), (0, 3), (0, 9), (0, 11), (0, 10)] = some [(1058, .iaload, 1), (1059, .aload_n 0, 1), (1060, .iload_n 3, 1), (1061, .iconst 2, 1), (1062, .iadd, 1), (1063, .iaload, 1), (1064, .invokevirtual 130, 3), (1067, .pop, 1), (1068, .aload_n 2, 1), (1069, .aload_n 0, 1), (1070, .iload_n 3, 1), (1071, .iconst 1, 1), (1072, .iadd, 1), (1073, .iaload, 1)] := by decide +kernel
theorem dL_law_1058 : decode cL_law 1058 = .ok (.iaload, 1) := dz_at dqL_law_p342j4 0 rfl
theorem dL_law_1059 : decode cL_law 1059 = .ok (.aload_n 0, 1) := dz_at dqL_law_p342j4 1 rfl
theorem dL_law_1060 : decode cL_law 1060 = .ok (.iload_n 3, 1) := dz_at dqL_law_p342j4 2 rfl
theorem dL_law_1061 : decode cL_law 1061 = .ok (.iconst 2, 1) := dz_at dqL_law_p342j4 3 rfl
theorem dL_law_1062 : decode cL_law 1062 = .ok (.iadd, 1) := dz_at dqL_law_p342j4 4 rfl
theorem dL_law_1063 : decode cL_law 1063 = .ok (.iaload, 1) := dz_at dqL_law_p342j4 5 rfl
theorem dL_law_1064 : decode cL_law 1064 = .ok (.invokevirtual 130, 3) := dz_at dqL_law_p342j4 6 rfl
theorem dL_law_1067 : decode cL_law 1067 = .ok (.pop, 1) := dz_at dqL_law_p342j4 7 rfl
theorem dL_law_1068 : decode cL_law 1068 = .ok (.aload_n 2, 1) := dz_at dqL_law_p342j4 8 rfl
theorem dL_law_1069 : decode cL_law 1069 = .ok (.aload_n 0, 1) := dz_at dqL_law_p342j4 9 rfl
theorem dL_law_1070 : decode cL_law 1070 = .ok (.iload_n 3, 1) := dz_at dqL_law_p342j4 10 rfl
theorem dL_law_1071 : decode cL_law 1071 = .ok (.iconst 1, 1) := dz_at dqL_law_p342j4 11 rfl
theorem dL_law_1072 : decode cL_law 1072 = .ok (.iadd, 1) := dz_at dqL_law_p342j4 12 rfl
theorem dL_law_1073 : decode cL_law 1073 = .ok (.iaload, 1) := dz_at dqL_law_p342j4 13 rfl
set_option maxRecDepth 20000 in
theorem dqL_law_p342j5 : dz_rn 1074 (cL_law.data.toList.drop 1074) [(0, 4), (0, 3), (0, 14), (0, 11)] = some [(1074, .aload_n 0, 1), (1075, .iload_n 3, 1), (1076, .iconst 2, 1), (1077, .iadd, 1)] := by decide +kernel
theorem dL_law_1074 : decode cL_law 1074 = .ok (.aload_n 0, 1) := dz_at dqL_law_p342j5 0 rfl
theorem dL_law_1075 : decode cL_law 1075 = .ok (.iload_n 3, 1) := dz_at dqL_law_p342j5 1 rfl
theorem dL_law_1076 : decode cL_law 1076 = .ok (.iconst 2, 1) := dz_at dqL_law_p342j5 2 rfl
theorem dL_law_1077 : decode cL_law 1077 = .ok (.iadd, 1) := dz_at dqL_law_p342j5 3 rfl
end
section
set_option maxRecDepth 20000 in
theorem dqL_law_p342k0 : dz_rn 1078 (cL_law.data.toList.drop 1078) [(0, 10), (3, 1), (0, 24), (4, 0), (0, 5), (0, 4), (0, 3), (0, 9), (0, 11), (0, 10), (0, 4), (0, 3), (0, 14), (0, 11)] = some [(1078, .iaload, 1), (1079, .invokevirtual 133, 3), (1082, .pop, 1), (1083, .goto 165, 3), (1086, .aload_n 1, 1), (1087, .aload_n 0, 1), (1088, .iload_n 3, 1), (1089, .iconst 1, 1), (1090, .iadd, 1), (1091, .iaload, 1), (1092, .aload_n 0, 1), (1093, .iload_n 3, 1), (1094, .iconst 2, 1), (1095, .iadd, 1)] := by decide +kernel
theorem dL_law_1078 : decode cL_law 1078 = .ok (.iaload, 1) := dz_at dqL_law_p342k0 0 rfl
theorem dL_law_1079 : decode cL_law 1079 = .ok (.invokevirtual 133, 3) := dz_at dqL_law_p342k0 1 rfl
theorem dL_law_1082 : decode cL_law 1082 = .ok (.pop, 1) := dz_at dqL_law_p342k0 2 rfl
theorem dL_law_1083 : decode cL_law 1083 = .ok (.goto 165, 3) := dz_at dqL_law_p342k0 3 rfl
theorem dL_law_1086 : decode cL_law 1086 = .ok (.aload_n 1, 1) := dz_at dqL_law_p342k0 4 rfl
theorem dL_law_1087 : decode cL_law 1087 = .ok (.aload_n 0, 1) := dz_at dqL_law_p342k0 5 rfl
theorem dL_law_1088 : decode cL_law 1088 = .ok (.iload_n 3, 1) := dz_at dqL_law_p342k0 6 rfl
theorem dL_law_1089 : decode cL_law 1089 = .ok (.iconst 1, 1) := dz_at dqL_law_p342k0 7 rfl
theorem dL_law_1090 : decode cL_law 1090 = .ok (.iadd, 1) := dz_at dqL_law_p342k0 8 rfl
theorem dL_law_1091 : decode cL_law 1091 = .ok (.iaload, 1) := dz_at dqL_law_p342k0 9 rfl
theorem dL_law_1092 : decode cL_law 1092 = .ok (.aload_n 0, 1) := dz_at dqL_law_p342k0 10 rfl
theorem dL_law_1093 : decode cL_law 1093 = .ok (.iload_n 3, 1) := dz_at dqL_law_p342k0 11 rfl
theorem dL_law_1094 : decode cL_law 1094 = .ok (.iconst 2, 1) := dz_at dqL_law_p342k0 12 rfl
theorem dL_law_1095 : decode cL_law 1095 = .ok (.iadd, 1) := dz_at dqL_law_p342k0 13 rfl
set_option maxRecDepth 20000 in
theorem dqL_law_p342k1 : dz_rn 1096 (cL_law.data.toList.drop 1096) [(0, 10), (0, 4), (0, 3), (0, 15), (0, 11), (0, 10), (3, 1), (0, 24), (0, 6), (0, 4), (0, 3), (0, 9), (0, 11), (0, 10)] = some [(1096, .iaload, 1), (1097, .aload_n 0, 1), (1098, .iload_n 3, 1), (1099, .iconst 3, 1), (1100, .iadd, 1), (1101, .iaload, 1), (1102, .invokevirtual 134, 3), (1105, .pop, 1), (1106, .aload_n 2, 1), (1107, .aload_n 0, 1), (1108, .iload_n 3, 1), (1109, .iconst 1, 1), (1110, .iadd, 1), (1111, .iaload, 1)] := by decide +kernel
theorem dL_law_1096 : decode cL_law 1096 = .ok (.iaload, 1) := dz_at dqL_law_p342k1 0 rfl
theorem dL_law_1097 : decode cL_law 1097 = .ok (.aload_n 0, 1) := dz_at dqL_law_p342k1 1 rfl
theorem dL_law_1098 : decode cL_law 1098 = .ok (.iload_n 3, 1) := dz_at dqL_law_p342k1 2 rfl
theorem dL_law_1099 : decode cL_law 1099 = .ok (.iconst 3, 1) := dz_at dqL_law_p342k1 3 rfl
theorem dL_law_1100 : decode cL_law 1100 = .ok (.iadd, 1) := dz_at dqL_law_p342k1 4 rfl
theorem dL_law_1101 : decode cL_law 1101 = .ok (.iaload, 1) := dz_at dqL_law_p342k1 5 rfl
theorem dL_law_1102 : decode cL_law 1102 = .ok (.invokevirtual 134, 3) := dz_at dqL_law_p342k1 6 rfl
theorem dL_law_1105 : decode cL_law 1105 = .ok (.pop, 1) := dz_at dqL_law_p342k1 7 rfl
theorem dL_law_1106 : decode cL_law 1106 = .ok (.aload_n 2, 1) := dz_at dqL_law_p342k1 8 rfl
theorem dL_law_1107 : decode cL_law 1107 = .ok (.aload_n 0, 1) := dz_at dqL_law_p342k1 9 rfl
theorem dL_law_1108 : decode cL_law 1108 = .ok (.iload_n 3, 1) := dz_at dqL_law_p342k1 10 rfl
theorem dL_law_1109 : decode cL_law 1109 = .ok (.iconst 1, 1) := dz_at dqL_law_p342k1 11 rfl
theorem dL_law_1110 : decode cL_law 1110 = .ok (.iadd, 1) := dz_at dqL_law_p342k1 12 rfl
theorem dL_law_1111 : decode cL_law 1111 = .ok (.iaload, 1) := dz_at dqL_law_p342k1 13 rfl
set_option maxRecDepth 20000 in
theorem dqL_law_p342k2 : dz_rn 1112 (cL_law.data.toList.drop 1112) [(0, 4), (0, 3), (0, 14), (0, 11), (0, 10), (0, 4), (0, 3), (0, 15), (0, 11), (0, 10), (3, 1), (0, 24), (4, 0), (0, 5)] = some [(1112, .aload_n 0, 1), (1113, .iload_n 3, 1), (1114, .iconst 2, 1), (1115, .iadd, 1), (1116, .iaload, 1), (1117, .aload_n 0, 1), (1118, .iload_n 3, 1), (1119, .iconst 3, 1), (1120, .iadd, 1), (1121, .iaload, 1), (1122, .invokevirtual 137, 3), (1125, .pop, 1), (1126, .goto 122, 3), (1129, .aload_n 1, 1)] := by decide +kernel
theorem dL_law_1112 : decode cL_law 1112 = .ok (.aload_n 0, 1) := dz_at dqL_law_p342k2 0 rfl
theorem dL_law_1113 : decode cL_law 1113 = .ok (.iload_n 3, 1) := dz_at dqL_law_p342k2 1 rfl
theorem dL_law_1114 : decode cL_law 1114 = .ok (.iconst 2, 1) := dz_at dqL_law_p342k2 2 rfl
theorem dL_law_1115 : decode cL_law 1115 = .ok (.iadd, 1) := dz_at dqL_law_p342k2 3 rfl
theorem dL_law_1116 : decode cL_law 1116 = .ok (.iaload, 1) := dz_at dqL_law_p342k2 4 rfl
theorem dL_law_1117 : decode cL_law 1117 = .ok (.aload_n 0, 1) := dz_at dqL_law_p342k2 5 rfl
theorem dL_law_1118 : decode cL_law 1118 = .ok (.iload_n 3, 1) := dz_at dqL_law_p342k2 6 rfl
theorem dL_law_1119 : decode cL_law 1119 = .ok (.iconst 3, 1) := dz_at dqL_law_p342k2 7 rfl
theorem dL_law_1120 : decode cL_law 1120 = .ok (.iadd, 1) := dz_at dqL_law_p342k2 8 rfl
theorem dL_law_1121 : decode cL_law 1121 = .ok (.iaload, 1) := dz_at dqL_law_p342k2 9 rfl
theorem dL_law_1122 : decode cL_law 1122 = .ok (.invokevirtual 137, 3) := dz_at dqL_law_p342k2 10 rfl
theorem dL_law_1125 : decode cL_law 1125 = .ok (.pop, 1) := dz_at dqL_law_p342k2 11 rfl
theorem dL_law_1126 : decode cL_law 1126 = .ok (.goto 122, 3) := dz_at dqL_law_p342k2 12 rfl
theorem dL_law_1129 : decode cL_law 1129 = .ok (.aload_n 1, 1) := dz_at dqL_law_p342k2 13 rfl
set_option maxRecDepth 20000 in
theorem dqL_law_p342k3 : dz_rn 1130 (cL_law.data.toList.drop 1130) [(0, 4), (0, 3), (0, 9), (0, 11), (0, 10), (0, 33), (2, 0), (0, 42), (0, 4), (0, 3), (0, 14), (0, 11), (0, 10), (0, 33)] = some [(1130, .aload_n 0, 1), (1131, .iload_n 3, 1), (1132, .iconst 1, 1), (1133, .iadd, 1), (1134, .iaload, 1), (1135, .i2l, 1), (1136, .bipush 32, 2), (1138, .lshl, 1), (1139, .aload_n 0, 1), (1140, .iload_n 3, 1), (1141, .iconst 2, 1), (1142, .iadd, 1), (1143, .iaload, 1), (1144, .i2l, 1)] := by decide +kernel
theorem dL_law_1130 : decode cL_law 1130 = .ok (.aload_n 0, 1) := dz_at dqL_law_p342k3 0 rfl
theorem dL_law_1131 : decode cL_law 1131 = .ok (.iload_n 3, 1) := dz_at dqL_law_p342k3 1 rfl
theorem dL_law_1132 : decode cL_law 1132 = .ok (.iconst 1, 1) := dz_at dqL_law_p342k3 2 rfl
theorem dL_law_1133 : decode cL_law 1133 = .ok (.iadd, 1) := dz_at dqL_law_p342k3 3 rfl
theorem dL_law_1134 : decode cL_law 1134 = .ok (.iaload, 1) := dz_at dqL_law_p342k3 4 rfl
theorem dL_law_1135 : decode cL_law 1135 = .ok (.i2l, 1) := dz_at dqL_law_p342k3 5 rfl
theorem dL_law_1136 : decode cL_law 1136 = .ok (.bipush 32, 2) := dz_at dqL_law_p342k3 6 rfl
theorem dL_law_1138 : decode cL_law 1138 = .ok (.lshl, 1) := dz_at dqL_law_p342k3 7 rfl
theorem dL_law_1139 : decode cL_law 1139 = .ok (.aload_n 0, 1) := dz_at dqL_law_p342k3 8 rfl
theorem dL_law_1140 : decode cL_law 1140 = .ok (.iload_n 3, 1) := dz_at dqL_law_p342k3 9 rfl
theorem dL_law_1141 : decode cL_law 1141 = .ok (.iconst 2, 1) := dz_at dqL_law_p342k3 10 rfl
theorem dL_law_1142 : decode cL_law 1142 = .ok (.iadd, 1) := dz_at dqL_law_p342k3 11 rfl
theorem dL_law_1143 : decode cL_law 1143 = .ok (.iaload, 1) := dz_at dqL_law_p342k3 12 rfl
theorem dL_law_1144 : decode cL_law 1144 = .ok (.i2l, 1) := dz_at dqL_law_p342k3 13 rfl
set_option maxRecDepth 20000 in
theorem dqL_law_p342k4 : dz_rn 1145 (cL_law.data.toList.drop 1145) [(3, 4), (0, 38), (0, 43), (0, 4), (0, 3), (0, 15), (0, 11), (0, 10), (0, 4), (0, 3), (0, 16), (0, 11), (0, 10), (3, 1)] = some [(1145, .ldc2_w 63, 3), (1148, .land, 1), (1149, .lor, 1), (1150, .aload_n 0, 1), (1151, .iload_n 3, 1), (1152, .iconst 3, 1), (1153, .iadd, 1), (1154, .iaload, 1), (1155, .aload_n 0, 1), (1156, .iload_n 3, 1), (1157, .iconst 4, 1), (1158, .iadd, 1), (1159, .iaload, 1), (1160, .invokevirtual 138, 3)] := by decide +kernel
theorem dL_law_1145 : decode cL_law 1145 = .ok (.ldc2_w 63, 3) := dz_at dqL_law_p342k4 0 rfl
theorem dL_law_1148 : decode cL_law 1148 = .ok (.land, 1) := dz_at dqL_law_p342k4 1 rfl
theorem dL_law_1149 : decode cL_law 1149 = .ok (.lor, 1) := dz_at dqL_law_p342k4 2 rfl
theorem dL_law_1150 : decode cL_law 1150 = .ok (.aload_n 0, 1) := dz_at dqL_law_p342k4 3 rfl
theorem dL_law_1151 : decode cL_law 1151 = .ok (.iload_n 3, 1) := dz_at dqL_law_p342k4 4 rfl
theorem dL_law_1152 : decode cL_law 1152 = .ok (.iconst 3, 1) := dz_at dqL_law_p342k4 5 rfl
theorem dL_law_1153 : decode cL_law 1153 = .ok (.iadd, 1) := dz_at dqL_law_p342k4 6 rfl
theorem dL_law_1154 : decode cL_law 1154 = .ok (.iaload, 1) := dz_at dqL_law_p342k4 7 rfl
theorem dL_law_1155 : decode cL_law 1155 = .ok (.aload_n 0, 1) := dz_at dqL_law_p342k4 8 rfl
theorem dL_law_1156 : decode cL_law 1156 = .ok (.iload_n 3, 1) := dz_at dqL_law_p342k4 9 rfl
theorem dL_law_1157 : decode cL_law 1157 = .ok (.iconst 4, 1) := dz_at dqL_law_p342k4 10 rfl
theorem dL_law_1158 : decode cL_law 1158 = .ok (.iadd, 1) := dz_at dqL_law_p342k4 11 rfl
theorem dL_law_1159 : decode cL_law 1159 = .ok (.iaload, 1) := dz_at dqL_law_p342k4 12 rfl
theorem dL_law_1160 : decode cL_law 1160 = .ok (.invokevirtual 138, 3) := dz_at dqL_law_p342k4 13 rfl
set_option maxRecDepth 20000 in
theorem dqL_law_p342k5 : dz_rn 1163 (cL_law.data.toList.drop 1163) [(0, 24), (0, 6), (0, 4), (0, 3)] = some [(1163, .pop, 1), (1164, .aload_n 2, 1), (1165, .aload_n 0, 1), (1166, .iload_n 3, 1)] := by decide +kernel
theorem dL_law_1163 : decode cL_law 1163 = .ok (.pop, 1) := dz_at dqL_law_p342k5 0 rfl
theorem dL_law_1164 : decode cL_law 1164 = .ok (.aload_n 2, 1) := dz_at dqL_law_p342k5 1 rfl
theorem dL_law_1165 : decode cL_law 1165 = .ok (.aload_n 0, 1) := dz_at dqL_law_p342k5 2 rfl
theorem dL_law_1166 : decode cL_law 1166 = .ok (.iload_n 3, 1) := dz_at dqL_law_p342k5 3 rfl
end
section
set_option maxRecDepth 20000 in
theorem dqL_law_p342l0 : dz_rn 1167 (cL_law.data.toList.drop 1167) [(0, 9), (0, 11), (0, 10), (0, 33), (2, 0), (0, 42), (0, 4), (0, 3), (0, 14), (0, 11), (0, 10), (0, 33), (3, 4), (0, 38)] = some [(1167, .iconst 1, 1), (1168, .iadd, 1), (1169, .iaload, 1), (1170, .i2l, 1), (1171, .bipush 32, 2), (1173, .lshl, 1), (1174, .aload_n 0, 1), (1175, .iload_n 3, 1), (1176, .iconst 2, 1), (1177, .iadd, 1), (1178, .iaload, 1), (1179, .i2l, 1), (1180, .ldc2_w 63, 3), (1183, .land, 1)] := by decide +kernel
theorem dL_law_1167 : decode cL_law 1167 = .ok (.iconst 1, 1) := dz_at dqL_law_p342l0 0 rfl
theorem dL_law_1168 : decode cL_law 1168 = .ok (.iadd, 1) := dz_at dqL_law_p342l0 1 rfl
theorem dL_law_1169 : decode cL_law 1169 = .ok (.iaload, 1) := dz_at dqL_law_p342l0 2 rfl
theorem dL_law_1170 : decode cL_law 1170 = .ok (.i2l, 1) := dz_at dqL_law_p342l0 3 rfl
theorem dL_law_1171 : decode cL_law 1171 = .ok (.bipush 32, 2) := dz_at dqL_law_p342l0 4 rfl
theorem dL_law_1173 : decode cL_law 1173 = .ok (.lshl, 1) := dz_at dqL_law_p342l0 5 rfl
theorem dL_law_1174 : decode cL_law 1174 = .ok (.aload_n 0, 1) := dz_at dqL_law_p342l0 6 rfl
theorem dL_law_1175 : decode cL_law 1175 = .ok (.iload_n 3, 1) := dz_at dqL_law_p342l0 7 rfl
theorem dL_law_1176 : decode cL_law 1176 = .ok (.iconst 2, 1) := dz_at dqL_law_p342l0 8 rfl
theorem dL_law_1177 : decode cL_law 1177 = .ok (.iadd, 1) := dz_at dqL_law_p342l0 9 rfl
theorem dL_law_1178 : decode cL_law 1178 = .ok (.iaload, 1) := dz_at dqL_law_p342l0 10 rfl
theorem dL_law_1179 : decode cL_law 1179 = .ok (.i2l, 1) := dz_at dqL_law_p342l0 11 rfl
theorem dL_law_1180 : decode cL_law 1180 = .ok (.ldc2_w 63, 3) := dz_at dqL_law_p342l0 12 rfl
theorem dL_law_1183 : decode cL_law 1183 = .ok (.land, 1) := dz_at dqL_law_p342l0 13 rfl
set_option maxRecDepth 20000 in
theorem dqL_law_p342l1 : dz_rn 1184 (cL_law.data.toList.drop 1184) [(0, 43), (0, 4), (0, 3), (0, 15), (0, 11), (0, 10), (0, 4), (0, 3), (0, 16), (0, 11), (0, 10), (3, 1), (0, 24), (4, 0)] = some [(1184, .lor, 1), (1185, .aload_n 0, 1), (1186, .iload_n 3, 1), (1187, .iconst 3, 1), (1188, .iadd, 1), (1189, .iaload, 1), (1190, .aload_n 0, 1), (1191, .iload_n 3, 1), (1192, .iconst 4, 1), (1193, .iadd, 1), (1194, .iaload, 1), (1195, .invokevirtual 141, 3), (1198, .pop, 1), (1199, .goto 49, 3)] := by decide +kernel
theorem dL_law_1184 : decode cL_law 1184 = .ok (.lor, 1) := dz_at dqL_law_p342l1 0 rfl
theorem dL_law_1185 : decode cL_law 1185 = .ok (.aload_n 0, 1) := dz_at dqL_law_p342l1 1 rfl
theorem dL_law_1186 : decode cL_law 1186 = .ok (.iload_n 3, 1) := dz_at dqL_law_p342l1 2 rfl
theorem dL_law_1187 : decode cL_law 1187 = .ok (.iconst 3, 1) := dz_at dqL_law_p342l1 3 rfl
theorem dL_law_1188 : decode cL_law 1188 = .ok (.iadd, 1) := dz_at dqL_law_p342l1 4 rfl
theorem dL_law_1189 : decode cL_law 1189 = .ok (.iaload, 1) := dz_at dqL_law_p342l1 5 rfl
theorem dL_law_1190 : decode cL_law 1190 = .ok (.aload_n 0, 1) := dz_at dqL_law_p342l1 6 rfl
theorem dL_law_1191 : decode cL_law 1191 = .ok (.iload_n 3, 1) := dz_at dqL_law_p342l1 7 rfl
theorem dL_law_1192 : decode cL_law 1192 = .ok (.iconst 4, 1) := dz_at dqL_law_p342l1 8 rfl
theorem dL_law_1193 : decode cL_law 1193 = .ok (.iadd, 1) := dz_at dqL_law_p342l1 9 rfl
theorem dL_law_1194 : decode cL_law 1194 = .ok (.iaload, 1) := dz_at dqL_law_p342l1 10 rfl
theorem dL_law_1195 : decode cL_law 1195 = .ok (.invokevirtual 141, 3) := dz_at dqL_law_p342l1 11 rfl
theorem dL_law_1198 : decode cL_law 1198 = .ok (.pop, 1) := dz_at dqL_law_p342l1 12 rfl
theorem dL_law_1199 : decode cL_law 1199 = .ok (.goto 49, 3) := dz_at dqL_law_p342l1 13 rfl
set_option maxRecDepth 20000 in
theorem dqL_law_p342l2 : dz_rn 1202 (cL_law.data.toList.drop 1202) [(0, 5), (0, 4), (0, 3), (0, 9), (0, 11), (0, 10), (3, 1), (0, 24), (0, 6), (0, 4), (0, 3), (0, 9), (0, 11), (0, 10)] = some [(1202, .aload_n 1, 1), (1203, .aload_n 0, 1), (1204, .iload_n 3, 1), (1205, .iconst 1, 1), (1206, .iadd, 1), (1207, .iaload, 1), (1208, .invokevirtual 142, 3), (1211, .pop, 1), (1212, .aload_n 2, 1), (1213, .aload_n 0, 1), (1214, .iload_n 3, 1), (1215, .iconst 1, 1), (1216, .iadd, 1), (1217, .iaload, 1)] := by decide +kernel
theorem dL_law_1202 : decode cL_law 1202 = .ok (.aload_n 1, 1) := dz_at dqL_law_p342l2 0 rfl
theorem dL_law_1203 : decode cL_law 1203 = .ok (.aload_n 0, 1) := dz_at dqL_law_p342l2 1 rfl
theorem dL_law_1204 : decode cL_law 1204 = .ok (.iload_n 3, 1) := dz_at dqL_law_p342l2 2 rfl
theorem dL_law_1205 : decode cL_law 1205 = .ok (.iconst 1, 1) := dz_at dqL_law_p342l2 3 rfl
theorem dL_law_1206 : decode cL_law 1206 = .ok (.iadd, 1) := dz_at dqL_law_p342l2 4 rfl
theorem dL_law_1207 : decode cL_law 1207 = .ok (.iaload, 1) := dz_at dqL_law_p342l2 5 rfl
theorem dL_law_1208 : decode cL_law 1208 = .ok (.invokevirtual 142, 3) := dz_at dqL_law_p342l2 6 rfl
theorem dL_law_1211 : decode cL_law 1211 = .ok (.pop, 1) := dz_at dqL_law_p342l2 7 rfl
theorem dL_law_1212 : decode cL_law 1212 = .ok (.aload_n 2, 1) := dz_at dqL_law_p342l2 8 rfl
theorem dL_law_1213 : decode cL_law 1213 = .ok (.aload_n 0, 1) := dz_at dqL_law_p342l2 9 rfl
theorem dL_law_1214 : decode cL_law 1214 = .ok (.iload_n 3, 1) := dz_at dqL_law_p342l2 10 rfl
theorem dL_law_1215 : decode cL_law 1215 = .ok (.iconst 1, 1) := dz_at dqL_law_p342l2 11 rfl
theorem dL_law_1216 : decode cL_law 1216 = .ok (.iadd, 1) := dz_at dqL_law_p342l2 12 rfl
theorem dL_law_1217 : decode cL_law 1217 = .ok (.iaload, 1) := dz_at dqL_law_p342l2 13 rfl
set_option maxRecDepth 20000 in
theorem dqL_law_p342l3 : dz_rn 1218 (cL_law.data.toList.drop 1218) [(3, 1), (0, 24), (4, 0), (0, 5), (0, 4), (0, 3), (0, 9), (0, 11), (0, 10), (3, 1), (0, 6), (0, 4), (0, 3), (0, 9)] = some [(1218, .invokevirtual 145, 3), (1221, .pop, 1), (1222, .goto 26, 3), (1225, .aload_n 1, 1), (1226, .aload_n 0, 1), (1227, .iload_n 3, 1), (1228, .iconst 1, 1), (1229, .iadd, 1), (1230, .iaload, 1), (1231, .invokevirtual 146, 3), (1234, .aload_n 2, 1), (1235, .aload_n 0, 1), (1236, .iload_n 3, 1), (1237, .iconst 1, 1)] := by decide +kernel
theorem dL_law_1218 : decode cL_law 1218 = .ok (.invokevirtual 145, 3) := dz_at dqL_law_p342l3 0 rfl
theorem dL_law_1221 : decode cL_law 1221 = .ok (.pop, 1) := dz_at dqL_law_p342l3 1 rfl
theorem dL_law_1222 : decode cL_law 1222 = .ok (.goto 26, 3) := dz_at dqL_law_p342l3 2 rfl
theorem dL_law_1225 : decode cL_law 1225 = .ok (.aload_n 1, 1) := dz_at dqL_law_p342l3 3 rfl
theorem dL_law_1226 : decode cL_law 1226 = .ok (.aload_n 0, 1) := dz_at dqL_law_p342l3 4 rfl
theorem dL_law_1227 : decode cL_law 1227 = .ok (.iload_n 3, 1) := dz_at dqL_law_p342l3 5 rfl
theorem dL_law_1228 : decode cL_law 1228 = .ok (.iconst 1, 1) := dz_at dqL_law_p342l3 6 rfl
theorem dL_law_1229 : decode cL_law 1229 = .ok (.iadd, 1) := dz_at dqL_law_p342l3 7 rfl
theorem dL_law_1230 : decode cL_law 1230 = .ok (.iaload, 1) := dz_at dqL_law_p342l3 8 rfl
theorem dL_law_1231 : decode cL_law 1231 = .ok (.invokevirtual 146, 3) := dz_at dqL_law_p342l3 9 rfl
theorem dL_law_1234 : decode cL_law 1234 = .ok (.aload_n 2, 1) := dz_at dqL_law_p342l3 10 rfl
theorem dL_law_1235 : decode cL_law 1235 = .ok (.aload_n 0, 1) := dz_at dqL_law_p342l3 11 rfl
theorem dL_law_1236 : decode cL_law 1236 = .ok (.iload_n 3, 1) := dz_at dqL_law_p342l3 12 rfl
theorem dL_law_1237 : decode cL_law 1237 = .ok (.iconst 1, 1) := dz_at dqL_law_p342l3 13 rfl
set_option maxRecDepth 20000 in
theorem dqL_law_p342l4 : dz_rn 1238 (cL_law.data.toList.drop 1238) [(0, 11), (0, 10), (3, 1), (4, 1), (0, 8), (0, 12), (5, 0), (4, 0), (0, 9), (0, 12)] = some [(1238, .iadd, 1), (1239, .iaload, 1), (1240, .invokevirtual 149, 3), (1243, .if_icmp .eq 5, 3), (1246, .iconst 0, 1), (1247, .ireturn, 1), (1248, .iinc 3 5, 3), (1251, .goto (-1233), 3), (1254, .iconst 1, 1), (1255, .ireturn, 1)] := by decide +kernel
theorem dL_law_1238 : decode cL_law 1238 = .ok (.iadd, 1) := dz_at dqL_law_p342l4 0 rfl
theorem dL_law_1239 : decode cL_law 1239 = .ok (.iaload, 1) := dz_at dqL_law_p342l4 1 rfl
theorem dL_law_1240 : decode cL_law 1240 = .ok (.invokevirtual 149, 3) := dz_at dqL_law_p342l4 2 rfl
theorem dL_law_1243 : decode cL_law 1243 = .ok (.if_icmp .eq 5, 3) := dz_at dqL_law_p342l4 3 rfl
theorem dL_law_1246 : decode cL_law 1246 = .ok (.iconst 0, 1) := dz_at dqL_law_p342l4 4 rfl
theorem dL_law_1247 : decode cL_law 1247 = .ok (.ireturn, 1) := dz_at dqL_law_p342l4 5 rfl
theorem dL_law_1248 : decode cL_law 1248 = .ok (.iinc 3 5, 3) := dz_at dqL_law_p342l4 6 rfl
theorem dL_law_1251 : decode cL_law 1251 = .ok (.goto (-1233), 3) := dz_at dqL_law_p342l4 7 rfl
theorem dL_law_1254 : decode cL_law 1254 = .ok (.iconst 1, 1) := dz_at dqL_law_p342l4 8 rfl
theorem dL_law_1255 : decode cL_law 1255 = .ok (.ireturn, 1) := dz_at dqL_law_p342l4 9 rfl
end
