set_option maxRecDepth 20000 in
theorem dqJ6_bitCount_0f7a4_p040 : dz_rn 0 (cJ6_bitCount_0f7a4.data.toList.drop 0) [(0, 0), (0, 0), (0, 9), (0, 45)] = some [(0, .iload_n 0, 1), (1, .iload_n 0, 1), (2, .iconst 1, 1), (3, .iushr, 1)] := by decide +kernel
theorem dJ6_bitCount_0f7a4_0 : decode cJ6_bitCount_0f7a4 0 = .ok (.iload_n 0, 1) := dz_at dqJ6_bitCount_0f7a4_p040 0 rfl
theorem dJ6_bitCount_0f7a4_1 : decode cJ6_bitCount_0f7a4 1 = .ok (.iload_n 0, 1) := dz_at dqJ6_bitCount_0f7a4_p040 1 rfl
theorem dJ6_bitCount_0f7a4_2 : decode cJ6_bitCount_0f7a4 2 = .ok (.iconst 1, 1) := dz_at dqJ6_bitCount_0f7a4_p040 2 rfl
theorem dJ6_bitCount_0f7a4_3 : decode cJ6_bitCount_0f7a4 3 = .ok (.iushr, 1) := dz_at dqJ6_bitCount_0f7a4_p040 3 rfl
theorem dJ6_bitCount_0f7a4_4 : decode cJ6_bitCount_0f7a4 4 = .ok (.ldc_w 265, 3) := by decide +kernel
set_option maxRecDepth 20000 in
theorem dqJ6_bitCount_0f7a4_p041 : dz_rn 7 (cJ6_bitCount_0f7a4.data.toList.drop 7) [(0, 29), (0, 26), (0, 18), (0, 0)] = some [(7, .iand, 1), (8, .isub, 1), (9, .istore_n 0, 1), (10, .iload_n 0, 1)] := by decide +kernel
theorem dJ6_bitCount_0f7a4_7 : decode cJ6_bitCount_0f7a4 7 = .ok (.iand, 1) := dz_at dqJ6_bitCount_0f7a4_p041 0 rfl
theorem dJ6_bitCount_0f7a4_8 : decode cJ6_bitCount_0f7a4 8 = .ok (.isub, 1) := dz_at dqJ6_bitCount_0f7a4_p041 1 rfl
theorem dJ6_bitCount_0f7a4_9 : decode cJ6_bitCount_0f7a4 9 = .ok (.istore_n 0, 1) := dz_at dqJ6_bitCount_0f7a4_p041 2 rfl
theorem dJ6_bitCount_0f7a4_10 : decode cJ6_bitCount_0f7a4 10 = .ok (.iload_n 0, 1) := dz_at dqJ6_bitCount_0f7a4_p041 3 rfl
theorem dJ6_bitCount_0f7a4_11 : decode cJ6_bitCount_0f7a4 11 = .ok (.ldc_w 266, 3) := by decide +kernel
set_option maxRecDepth 20000 in
theorem dqJ6_bitCount_0f7a4_p042 : dz_rn 14 (cJ6_bitCount_0f7a4.data.toList.drop 14) [(0, 29), (0, 0), (0, 14), (0, 45)] = some [(14, .iand, 1), (15, .iload_n 0, 1), (16, .iconst 2, 1), (17, .iushr, 1)] := by decide +kernel
theorem dJ6_bitCount_0f7a4_14 : decode cJ6_bitCount_0f7a4 14 = .ok (.iand, 1) := dz_at dqJ6_bitCount_0f7a4_p042 0 rfl
theorem dJ6_bitCount_0f7a4_15 : decode cJ6_bitCount_0f7a4 15 = .ok (.iload_n 0, 1) := dz_at dqJ6_bitCount_0f7a4_p042 1 rfl
theorem dJ6_bitCount_0f7a4_16 : decode cJ6_bitCount_0f7a4 16 = .ok (.iconst 2, 1) := dz_at dqJ6_bitCount_0f7a4_p042 2 rfl
theorem dJ6_bitCount_0f7a4_17 : decode cJ6_bitCount_0f7a4 17 = .ok (.iushr, 1) := dz_at dqJ6_bitCount_0f7a4_p042 3 rfl
theorem dJ6_bitCount_0f7a4_18 : decode cJ6_bitCount_0f7a4 18 = .ok (.ldc_w 266, 3) := by decide +kernel
set_option maxRecDepth 20000 in
theorem dqJ6_bitCount_0f7a4_p043 : dz_rn 21 (cJ6_bitCount_0f7a4.data.toList.drop 21) [(0, 29), (0, 11), (0, 18), (0, 0), (0, 0), (0, 16), (0, 45), (0, 11)] = some [(21, .iand, 1), (22, .iadd, 1), (23, .istore_n 0, 1), (24, .iload_n 0, 1), (25, .iload_n 0, 1), (26, .iconst 4, 1), (27, .iushr, 1), (28, .iadd, 1)] := by decide +kernel
theorem dJ6_bitCount_0f7a4_21 : decode cJ6_bitCount_0f7a4 21 = .ok (.iand, 1) := dz_at dqJ6_bitCount_0f7a4_p043 0 rfl
theorem dJ6_bitCount_0f7a4_22 : decode cJ6_bitCount_0f7a4 22 = .ok (.iadd, 1) := dz_at dqJ6_bitCount_0f7a4_p043 1 rfl
theorem dJ6_bitCount_0f7a4_23 : decode cJ6_bitCount_0f7a4 23 = .ok (.istore_n 0, 1) := dz_at dqJ6_bitCount_0f7a4_p043 2 rfl
theorem dJ6_bitCount_0f7a4_24 : decode cJ6_bitCount_0f7a4 24 = .ok (.iload_n 0, 1) := dz_at dqJ6_bitCount_0f7a4_p043 3 rfl
theorem dJ6_bitCount_0f7a4_25 : decode cJ6_bitCount_0f7a4 25 = .ok (.iload_n 0, 1) := dz_at dqJ6_bitCount_0f7a4_p043 4 rfl
theorem dJ6_bitCount_0f7a4_26 : decode cJ6_bitCount_0f7a4 26 = .ok (.iconst 4, 1) := dz_at dqJ6_bitCount_0f7a4_p043 5 rfl
theorem dJ6_bitCount_0f7a4_27 : decode cJ6_bitCount_0f7a4 27 = .ok (.iushr, 1) := dz_at dqJ6_bitCount_0f7a4_p043 6 rfl
theorem dJ6_bitCount_0f7a4_28 : decode cJ6_bitCount_0f7a4 28 = .ok (.iadd, 1) := dz_at dqJ6_bitCount_0f7a4_p043 7 rfl
theorem dJ6_bitCount_0f7a4_29 : decode cJ6_bitCount_0f7a4 29 = .ok (.ldc_w 267, 3) := by decide +kernel
set_option maxRecDepth 20000 in
theorem dqJ6_bitCount_0f7a4_p044 : dz_rn 32 (cJ6_bitCount_0f7a4.data.toList.drop 32) [(0, 29), (0, 18), (0, 0), (0, 0), (2, 0), (0, 45), (0, 11), (0, 18), (0, 0), (0, 0), (2, 0), (0, 45), (0, 11), (0, 18)] = some [(32, .iand, 1), (33, .istore_n 0, 1), (34, .iload_n 0, 1), (35, .iload_n 0, 1), (36, .bipush 8, 2), (38, .iushr, 1), (39, .iadd, 1), (40, .istore_n 0, 1), (41, .iload_n 0, 1), (42, .iload_n 0, 1), (43, .bipush 16, 2), (45, .iushr, 1), (46, .iadd, 1), (47, .istore_n 0, 1)] := by decide +kernel
theorem dJ6_bitCount_0f7a4_32 : decode cJ6_bitCount_0f7a4 32 = .ok (.iand, 1) := dz_at dqJ6_bitCount_0f7a4_p044 0 rfl
theorem dJ6_bitCount_0f7a4_33 : decode cJ6_bitCount_0f7a4 33 = .ok (.istore_n 0, 1) := dz_at dqJ6_bitCount_0f7a4_p044 1 rfl
theorem dJ6_bitCount_0f7a4_34 : decode cJ6_bitCount_0f7a4 34 = .ok (.iload_n 0, 1) := dz_at dqJ6_bitCount_0f7a4_p044 2 rfl
theorem dJ6_bitCount_0f7a4_35 : decode cJ6_bitCount_0f7a4 35 = .ok (.iload_n 0, 1) := dz_at dqJ6_bitCount_0f7a4_p044 3 rfl
theorem dJ6_bitCount_0f7a4_36 : decode cJ6_bitCount_0f7a4 36 = .ok (.bipush 8, 2) := dz_at dqJ6_bitCount_0f7a4_p044 4 rfl
theorem dJ6_bitCount_0f7a4_38 : decode cJ6_bitCount_0f7a4 38 = .ok (.iushr, 1) := dz_at dqJ6_bitCount_0f7a4_p044 5 rfl
theorem dJ6_bitCount_0f7a4_39 : decode cJ6_bitCount_0f7a4 39 = .ok (.iadd, 1) := dz_at dqJ6_bitCount_0f7a4_p044 6 rfl
theorem dJ6_bitCount_0f7a4_40 : decode cJ6_bitCount_0f7a4 40 = .ok (.istore_n 0, 1) := dz_at dqJ6_bitCount_0f7a4_p044 7 rfl
theorem dJ6_bitCount_0f7a4_41 : decode cJ6_bitCount_0f7a4 41 = .ok (.iload_n 0, 1) := dz_at dqJ6_bitCount_0f7a4_p044 8 rfl
theorem dJ6_bitCount_0f7a4_42 : decode cJ6_bitCount_0f7a4 42 = .ok (.iload_n 0, 1) := dz_at dqJ6_bitCount_0f7a4_p044 9 rfl
theorem dJ6_bitCount_0f7a4_43 : decode cJ6_bitCount_0f7a4 43 = .ok (.bipush 16, 2) := dz_at dqJ6_bitCount_0f7a4_p044 10 rfl
theorem dJ6_bitCount_0f7a4_45 : decode cJ6_bitCount_0f7a4 45 = .ok (.iushr, 1) := dz_at dqJ6_bitCount_0f7a4_p044 11 rfl
theorem dJ6_bitCount_0f7a4_46 : decode cJ6_bitCount_0f7a4 46 = .ok (.iadd, 1) := dz_at dqJ6_bitCount_0f7a4_p044 12 rfl
theorem dJ6_bitCount_0f7a4_47 : decode cJ6_bitCount_0f7a4 47 = .ok (.istore_n 0, 1) := dz_at dqJ6_bitCount_0f7a4_p044 13 rfl
set_option maxRecDepth 20000 in
theorem dqJ6_bitCount_0f7a4_p045 : dz_rn 48 (cJ6_bitCount_0f7a4.data.toList.drop 48) [(0, 0), (2, 0), (0, 29), (0, 12)] = some [(48, .iload_n 0, 1), (49, .bipush 63, 2), (51, .iand, 1), (52, .ireturn, 1)] := by decide +kernel
theorem dJ6_bitCount_0f7a4_48 : decode cJ6_bitCount_0f7a4 48 = .ok (.iload_n 0, 1) := dz_at dqJ6_bitCount_0f7a4_p045 0 rfl
theorem dJ6_bitCount_0f7a4_49 : decode cJ6_bitCount_0f7a4 49 = .ok (.bipush 63, 2) := dz_at dqJ6_bitCount_0f7a4_p045 1 rfl
theorem dJ6_bitCount_0f7a4_51 : decode cJ6_bitCount_0f7a4 51 = .ok (.iand, 1) := dz_at dqJ6_bitCount_0f7a4_p045 2 rfl
theorem dJ6_bitCount_0f7a4_52 : decode cJ6_bitCount_0f7a4 52 = .ok (.ireturn, 1) := dz_at dqJ6_bitCount_0f7a4_p045 3 rfl
set_option maxRecDepth 20000 in
theorem ggJ0_length_8abf5_J0_coder_7d493 : GoodIn wsJ0_length_8abf5 wsJ0_coder_7d493 := goodIn_r _ [6, 7, 8] rfl (by decide +kernel)
set_option maxRecDepth 20000 in
theorem gJ0_length_8abf5_J0_coder_7d493 : GoodIn wsJ0_length_8abf5 (wsV RJ0 335 RJ0 yJ0_coder_7d493 wsJ0_coder_7d493) := goodIn_app (goodIn_of _ (by decide +kernel)) ggJ0_length_8abf5_J0_coder_7d493
set_option maxRecDepth 20000 in
theorem dqJ0_length_8abf5_p040 : dz_rn 0 (cJ0_length_8abf5.data.toList.drop 0) [(0, 4), (3, 0), (0, 44), (0, 4), (3, 1), (0, 32), (0, 12)] = some [(0, .aload_n 0, 1), (1, .getfield 9, 3), (4, .arraylength, 1), (5, .aload_n 0, 1), (6, .invokevirtual 335, 3), (9, .ishr, 1), (10, .ireturn, 1)] := by decide +kernel
theorem dJ0_length_8abf5_0 : decode cJ0_length_8abf5 0 = .ok (.aload_n 0, 1) := dz_at dqJ0_length_8abf5_p040 0 rfl
theorem dJ0_length_8abf5_1 : decode cJ0_length_8abf5 1 = .ok (.getfield 9, 3) := dz_at dqJ0_length_8abf5_p040 1 rfl
theorem dJ0_length_8abf5_4 : decode cJ0_length_8abf5 4 = .ok (.arraylength, 1) := dz_at dqJ0_length_8abf5_p040 2 rfl
theorem dJ0_length_8abf5_5 : decode cJ0_length_8abf5 5 = .ok (.aload_n 0, 1) := dz_at dqJ0_length_8abf5_p040 3 rfl
theorem dJ0_length_8abf5_6 : decode cJ0_length_8abf5 6 = .ok (.invokevirtual 335, 3) := dz_at dqJ0_length_8abf5_p040 4 rfl
theorem dJ0_length_8abf5_9 : decode cJ0_length_8abf5 9 = .ok (.ishr, 1) := dz_at dqJ0_length_8abf5_p040 5 rfl
theorem dJ0_length_8abf5_10 : decode cJ0_length_8abf5 10 = .ok (.ireturn, 1) := dz_at dqJ0_length_8abf5_p040 6 rfl
set_option maxRecDepth 20000 in
theorem ggJ0_charAt_5068e_J0_isLatin1_aae02 : GoodIn wsJ0_charAt_5068e wsJ0_isLatin1_aae02 := goodIn_r _ [6, 7, 8] rfl (by decide +kernel)
set_option maxRecDepth 20000 in
theorem gJ0_charAt_5068e_J0_isLatin1_aae02 : GoodIn wsJ0_charAt_5068e (wsV RJ0 492 RJ0 yJ0_isLatin1_aae02 wsJ0_isLatin1_aae02) := goodIn_app (goodIn_of _ (by decide +kernel)) ggJ0_charAt_5068e_J0_isLatin1_aae02
set_option maxRecDepth 20000 in
theorem ggJ0_charAt_5068e_J1_charAt_3b067 : GoodIn wsJ0_charAt_5068e wsJ1_charAt_3b067 := goodIn_r _ [12, 13, 14, 5, 15, 16, 17, 18, 19, 20] rfl (by decide +kernel)
set_option maxRecDepth 20000 in
theorem gJ0_charAt_5068e_J1_charAt_3b067 : GoodIn wsJ0_charAt_5068e (va_wsS RJ0 495 yJ1_charAt_3b067 wsJ1_charAt_3b067) := goodIn_app (goodIn_of _ (by decide +kernel)) ggJ0_charAt_5068e_J1_charAt_3b067
set_option maxRecDepth 20000 in
theorem dqJ0_charAt_5068e_p040 : dz_rn 0 (cJ0_charAt_5068e.data.toList.drop 0) [(0, 4), (3, 1), (4, 7), (0, 4), (3, 0), (0, 1), (3, 2), (0, 12)] = some [(0, .aload_n 0, 1), (1, .invokevirtual 492, 3), (4, .ifCond .eq 12, 3), (7, .aload_n 0, 1), (8, .getfield 9, 3), (11, .iload_n 1, 1), (12, .invokestatic 495, 3), (15, .ireturn, 1)] := by decide +kernel
theorem dJ0_charAt_5068e_0 : decode cJ0_charAt_5068e 0 = .ok (.aload_n 0, 1) := dz_at dqJ0_charAt_5068e_p040 0 rfl
theorem dJ0_charAt_5068e_1 : decode cJ0_charAt_5068e 1 = .ok (.invokevirtual 492, 3) := dz_at dqJ0_charAt_5068e_p040 1 rfl
theorem dJ0_charAt_5068e_4 : decode cJ0_charAt_5068e 4 = .ok (.ifCond .eq 12, 3) := dz_at dqJ0_charAt_5068e_p040 2 rfl
theorem dJ0_charAt_5068e_7 : decode cJ0_charAt_5068e 7 = .ok (.aload_n 0, 1) := dz_at dqJ0_charAt_5068e_p040 3 rfl
theorem dJ0_charAt_5068e_8 : decode cJ0_charAt_5068e 8 = .ok (.getfield 9, 3) := dz_at dqJ0_charAt_5068e_p040 4 rfl
theorem dJ0_charAt_5068e_11 : decode cJ0_charAt_5068e 11 = .ok (.iload_n 1, 1) := dz_at dqJ0_charAt_5068e_p040 5 rfl
theorem dJ0_charAt_5068e_12 : decode cJ0_charAt_5068e 12 = .ok (.invokestatic 495, 3) := dz_at dqJ0_charAt_5068e_p040 6 rfl
theorem dJ0_charAt_5068e_15 : decode cJ0_charAt_5068e 15 = .ok (.ireturn, 1) := dz_at dqJ0_charAt_5068e_p040 7 rfl
theorem dJ0_coder_7d493_0 : decode cJ0_coder_7d493 0 = .ok (.getstatic 38, 3) := by decide +kernel
set_option maxRecDepth 20000 in
theorem dqJ0_coder_7d493_p040 : dz_rn 3 (cJ0_coder_7d493.data.toList.drop 3) [(4, 7), (0, 4), (3, 0), (4, 0)] = some [(3, .ifCond .eq 10, 3), (6, .aload_n 0, 1), (7, .getfield 15, 3), (10, .goto 4, 3)] := by decide +kernel
theorem dJ0_coder_7d493_3 : decode cJ0_coder_7d493 3 = .ok (.ifCond .eq 10, 3) := dz_at dqJ0_coder_7d493_p040 0 rfl
theorem dJ0_coder_7d493_6 : decode cJ0_coder_7d493 6 = .ok (.aload_n 0, 1) := dz_at dqJ0_coder_7d493_p040 1 rfl
theorem dJ0_coder_7d493_7 : decode cJ0_coder_7d493 7 = .ok (.getfield 15, 3) := dz_at dqJ0_coder_7d493_p040 2 rfl
theorem dJ0_coder_7d493_10 : decode cJ0_coder_7d493 10 = .ok (.goto 4, 3) := dz_at dqJ0_coder_7d493_p040 3 rfl
theorem dJ0_coder_7d493_14 : decode cJ0_coder_7d493 14 = .ok (.ireturn, 1) := by decide +kernel
theorem dJ0_isLatin1_aae02_0 : decode cJ0_isLatin1_aae02 0 = .ok (.getstatic 38, 3) := by decide +kernel
set_option maxRecDepth 20000 in
theorem dqJ0_isLatin1_aae02_p040 : dz_rn 3 (cJ0_isLatin1_aae02.data.toList.drop 3) [(4, 7), (0, 4), (3, 0), (4, 8), (0, 9), (4, 0)] = some [(3, .ifCond .eq 14, 3), (6, .aload_n 0, 1), (7, .getfield 15, 3), (10, .ifCond .ne 7, 3), (13, .iconst 1, 1), (14, .goto 4, 3)] := by decide +kernel
theorem dJ0_isLatin1_aae02_3 : decode cJ0_isLatin1_aae02 3 = .ok (.ifCond .eq 14, 3) := dz_at dqJ0_isLatin1_aae02_p040 0 rfl
theorem dJ0_isLatin1_aae02_6 : decode cJ0_isLatin1_aae02 6 = .ok (.aload_n 0, 1) := dz_at dqJ0_isLatin1_aae02_p040 1 rfl
theorem dJ0_isLatin1_aae02_7 : decode cJ0_isLatin1_aae02 7 = .ok (.getfield 15, 3) := dz_at dqJ0_isLatin1_aae02_p040 2 rfl
theorem dJ0_isLatin1_aae02_10 : decode cJ0_isLatin1_aae02 10 = .ok (.ifCond .ne 7, 3) := dz_at dqJ0_isLatin1_aae02_p040 3 rfl
theorem dJ0_isLatin1_aae02_13 : decode cJ0_isLatin1_aae02 13 = .ok (.iconst 1, 1) := dz_at dqJ0_isLatin1_aae02_p040 4 rfl
theorem dJ0_isLatin1_aae02_14 : decode cJ0_isLatin1_aae02 14 = .ok (.goto 4, 3) := dz_at dqJ0_isLatin1_aae02_p040 5 rfl
theorem dJ0_isLatin1_aae02_18 : decode cJ0_isLatin1_aae02 18 = .ok (.ireturn, 1) := by decide +kernel
set_option maxRecDepth 20000 in
theorem ggJ0_checkIndex_df160_J3_checkIndex_8e157 : GoodIn wsJ0_checkIndex_df160 wsJ3_checkIndex_8e157 := goodIn_r _ [5] rfl (by decide +kernel)
set_option maxRecDepth 20000 in
theorem gJ0_checkIndex_df160_J3_checkIndex_8e157 : GoodIn wsJ0_checkIndex_df160 (va_wsS RJ0 1059 yJ3_checkIndex_8e157 wsJ3_checkIndex_8e157) := goodIn_app (goodIn_of _ (by decide +kernel)) ggJ0_checkIndex_df160_J3_checkIndex_8e157
set_option maxRecDepth 20000 in
theorem dqJ0_checkIndex_df160_p040 : dz_rn 0 (cJ0_checkIndex_df160.data.toList.drop 0) [(0, 0), (0, 1)] = some [(0, .iload_n 0, 1), (1, .iload_n 1, 1)] := by decide +kernel
theorem dJ0_checkIndex_df160_0 : decode cJ0_checkIndex_df160 0 = .ok (.iload_n 0, 1) := dz_at dqJ0_checkIndex_df160_p040 0 rfl
theorem dJ0_checkIndex_df160_1 : decode cJ0_checkIndex_df160 1 = .ok (.iload_n 1, 1) := dz_at dqJ0_checkIndex_df160_p040 1 rfl
theorem dJ0_checkIndex_df160_2 : decode cJ0_checkIndex_df160 2 = .ok (.getstatic 1053, 3) := by decide +kernel
set_option maxRecDepth 20000 in
theorem dqJ0_checkIndex_df160_p041 : dz_rn 5 (cJ0_checkIndex_df160.data.toList.drop 5) [(3, 2), (0, 24), (0, 25)] = some [(5, .invokestatic 1059, 3), (8, .pop, 1), (9, .return_, 1)] := by decide +kernel
theorem dJ0_checkIndex_df160_5 : decode cJ0_checkIndex_df160 5 = .ok (.invokestatic 1059, 3) := dz_at dqJ0_checkIndex_df160_p041 0 rfl
theorem dJ0_checkIndex_df160_8 : decode cJ0_checkIndex_df160 8 = .ok (.pop, 1) := dz_at dqJ0_checkIndex_df160_p041 1 rfl
theorem dJ0_checkIndex_df160_9 : decode cJ0_checkIndex_df160 9 = .ok (.return_, 1) := dz_at dqJ0_checkIndex_df160_p041 2 rfl
set_option maxRecDepth 20000 in
theorem ggJ1_charAt_3b067_J0_checkIndex_df160 : GoodIn wsJ1_charAt_3b067 wsJ0_checkIndex_df160 := goodIn_r _ [4, 5, 6, 7, 8, 9] rfl (by decide +kernel)
set_option maxRecDepth 20000 in
theorem gJ1_charAt_3b067_J0_checkIndex_df160 : GoodIn wsJ1_charAt_3b067 (va_wsS RJ1 9 yJ0_checkIndex_df160 wsJ0_checkIndex_df160) := goodIn_app (goodIn_of _ (by decide +kernel)) ggJ1_charAt_3b067_J0_checkIndex_df160
set_option maxRecDepth 20000 in
theorem dqJ1_charAt_3b067_p040 : dz_rn 0 (cJ1_charAt_3b067.data.toList.drop 0) [(0, 1), (0, 4), (0, 44), (3, 2), (0, 4), (0, 1)] = some [(0, .iload_n 1, 1), (1, .aload_n 0, 1), (2, .arraylength, 1), (3, .invokestatic 9, 3), (6, .aload_n 0, 1), (7, .iload_n 1, 1)] := by decide +kernel
theorem dJ1_charAt_3b067_0 : decode cJ1_charAt_3b067 0 = .ok (.iload_n 1, 1) := dz_at dqJ1_charAt_3b067_p040 0 rfl
theorem dJ1_charAt_3b067_1 : decode cJ1_charAt_3b067 1 = .ok (.aload_n 0, 1) := dz_at dqJ1_charAt_3b067_p040 1 rfl
theorem dJ1_charAt_3b067_2 : decode cJ1_charAt_3b067 2 = .ok (.arraylength, 1) := dz_at dqJ1_charAt_3b067_p040 2 rfl
theorem dJ1_charAt_3b067_3 : decode cJ1_charAt_3b067 3 = .ok (.invokestatic 9, 3) := dz_at dqJ1_charAt_3b067_p040 3 rfl
theorem dJ1_charAt_3b067_6 : decode cJ1_charAt_3b067 6 = .ok (.aload_n 0, 1) := dz_at dqJ1_charAt_3b067_p040 4 rfl
theorem dJ1_charAt_3b067_7 : decode cJ1_charAt_3b067 7 = .ok (.iload_n 1, 1) := dz_at dqJ1_charAt_3b067_p040 5 rfl
theorem dJ1_charAt_3b067_8 : decode cJ1_charAt_3b067 8 = .ok (.baload, 1) := by decide +kernel
set_option maxRecDepth 20000 in
theorem dqJ1_charAt_3b067_p041 : dz_rn 9 (cJ1_charAt_3b067.data.toList.drop 9) [(4, 13), (0, 29)] = some [(9, .sipush 255, 3), (12, .iand, 1)] := by decide +kernel
theorem dJ1_charAt_3b067_9 : decode cJ1_charAt_3b067 9 = .ok (.sipush 255, 3) := dz_at dqJ1_charAt_3b067_p041 0 rfl
theorem dJ1_charAt_3b067_12 : decode cJ1_charAt_3b067 12 = .ok (.iand, 1) := dz_at dqJ1_charAt_3b067_p041 1 rfl
theorem dJ1_charAt_3b067_13 : decode cJ1_charAt_3b067 13 = .ok (.i2c, 1) := by decide +kernel
theorem dJ1_charAt_3b067_14 : decode cJ1_charAt_3b067 14 = .ok (.ireturn, 1) := by decide +kernel
set_option maxRecDepth 20000 in
theorem dqJ7_fill_53178_p040 : dz_rn 0 (cJ7_fill_53178.data.toList.drop 0) [(0, 8), (0, 20), (0, 4), (0, 44), (0, 21), (0, 2), (0, 3), (4, 4), (0, 4), (0, 2), (0, 1), (0, 22), (5, 0), (4, 0)] = some [(0, .iconst 0, 1), (1, .istore_n 2, 1), (2, .aload_n 0, 1), (3, .arraylength, 1), (4, .istore_n 3, 1), (5, .iload_n 2, 1), (6, .iload_n 3, 1), (7, .if_icmp .ge 13, 3), (10, .aload_n 0, 1), (11, .iload_n 2, 1), (12, .iload_n 1, 1), (13, .iastore, 1), (14, .iinc 2 1, 3), (17, .goto (-12), 3)] := by decide +kernel
theorem dJ7_fill_53178_0 : decode cJ7_fill_53178 0 = .ok (.iconst 0, 1) := dz_at dqJ7_fill_53178_p040 0 rfl
theorem dJ7_fill_53178_1 : decode cJ7_fill_53178 1 = .ok (.istore_n 2, 1) := dz_at dqJ7_fill_53178_p040 1 rfl
theorem dJ7_fill_53178_2 : decode cJ7_fill_53178 2 = .ok (.aload_n 0, 1) := dz_at dqJ7_fill_53178_p040 2 rfl
theorem dJ7_fill_53178_3 : decode cJ7_fill_53178 3 = .ok (.arraylength, 1) := dz_at dqJ7_fill_53178_p040 3 rfl
theorem dJ7_fill_53178_4 : decode cJ7_fill_53178 4 = .ok (.istore_n 3, 1) := dz_at dqJ7_fill_53178_p040 4 rfl
theorem dJ7_fill_53178_5 : decode cJ7_fill_53178 5 = .ok (.iload_n 2, 1) := dz_at dqJ7_fill_53178_p040 5 rfl
theorem dJ7_fill_53178_6 : decode cJ7_fill_53178 6 = .ok (.iload_n 3, 1) := dz_at dqJ7_fill_53178_p040 6 rfl
theorem dJ7_fill_53178_7 : decode cJ7_fill_53178 7 = .ok (.if_icmp .ge 13, 3) := dz_at dqJ7_fill_53178_p040 7 rfl
theorem dJ7_fill_53178_10 : decode cJ7_fill_53178 10 = .ok (.aload_n 0, 1) := dz_at dqJ7_fill_53178_p040 8 rfl
theorem dJ7_fill_53178_11 : decode cJ7_fill_53178 11 = .ok (.iload_n 2, 1) := dz_at dqJ7_fill_53178_p040 9 rfl
theorem dJ7_fill_53178_12 : decode cJ7_fill_53178 12 = .ok (.iload_n 1, 1) := dz_at dqJ7_fill_53178_p040 10 rfl
theorem dJ7_fill_53178_13 : decode cJ7_fill_53178 13 = .ok (.iastore, 1) := dz_at dqJ7_fill_53178_p040 11 rfl
theorem dJ7_fill_53178_14 : decode cJ7_fill_53178 14 = .ok (.iinc 2 1, 3) := dz_at dqJ7_fill_53178_p040 12 rfl
theorem dJ7_fill_53178_17 : decode cJ7_fill_53178 17 = .ok (.goto (-12), 3) := dz_at dqJ7_fill_53178_p040 13 rfl
theorem dJ7_fill_53178_20 : decode cJ7_fill_53178 20 = .ok (.return_, 1) := by decide +kernel
set_option maxRecDepth 20000 in
theorem dqJ3_checkIndex_8e157_p040 : dz_rn 0 (cJ3_checkIndex_8e157.data.toList.drop 0) [(0, 0), (4, 9), (0, 0), (0, 1), (4, 3)] = some [(0, .iload_n 0, 1), (1, .ifCond .lt 8, 3), (4, .iload_n 0, 1), (5, .iload_n 1, 1), (6, .if_icmp .lt 10, 3)] := by decide +kernel
theorem dJ3_checkIndex_8e157_0 : decode cJ3_checkIndex_8e157 0 = .ok (.iload_n 0, 1) := dz_at dqJ3_checkIndex_8e157_p040 0 rfl
theorem dJ3_checkIndex_8e157_1 : decode cJ3_checkIndex_8e157 1 = .ok (.ifCond .lt 8, 3) := dz_at dqJ3_checkIndex_8e157_p040 1 rfl
theorem dJ3_checkIndex_8e157_4 : decode cJ3_checkIndex_8e157 4 = .ok (.iload_n 0, 1) := dz_at dqJ3_checkIndex_8e157_p040 2 rfl
theorem dJ3_checkIndex_8e157_5 : decode cJ3_checkIndex_8e157 5 = .ok (.iload_n 1, 1) := dz_at dqJ3_checkIndex_8e157_p040 3 rfl
theorem dJ3_checkIndex_8e157_6 : decode cJ3_checkIndex_8e157 6 = .ok (.if_icmp .lt 10, 3) := dz_at dqJ3_checkIndex_8e157_p040 4 rfl
set_option maxRecDepth 20000 in
theorem dqJ3_checkIndex_8e157_p041 : dz_rn 16 (cJ3_checkIndex_8e157.data.toList.drop 16) [(0, 0), (0, 12)] = some [(16, .iload_n 0, 1), (17, .ireturn, 1)] := by decide +kernel
theorem dJ3_checkIndex_8e157_16 : decode cJ3_checkIndex_8e157 16 = .ok (.iload_n 0, 1) := dz_at dqJ3_checkIndex_8e157_p041 0 rfl
theorem dJ3_checkIndex_8e157_17 : decode cJ3_checkIndex_8e157 17 = .ok (.ireturn, 1) := dz_at dqJ3_checkIndex_8e157_p041 1 rfl
set_option maxRecDepth 20000 in
theorem dqX9_within_p040 : dz_rn 0 (cX9_within.data.toList.drop 0) [(0, 0), (0, 1), (4, 3), (0, 0), (0, 2), (4, 5), (0, 9), (4, 0), (0, 8), (0, 12)] = some [(0, .iload_n 0, 1), (1, .iload_n 1, 1), (2, .if_icmp .lt 12, 3), (5, .iload_n 0, 1), (6, .iload_n 2, 1), (7, .if_icmp .gt 7, 3), (10, .iconst 1, 1), (11, .goto 4, 3), (14, .iconst 0, 1), (15, .ireturn, 1)] := by decide +kernel
theorem dX9_within_0 : decode cX9_within 0 = .ok (.iload_n 0, 1) := dz_at dqX9_within_p040 0 rfl
theorem dX9_within_1 : decode cX9_within 1 = .ok (.iload_n 1, 1) := dz_at dqX9_within_p040 1 rfl
theorem dX9_within_2 : decode cX9_within 2 = .ok (.if_icmp .lt 12, 3) := dz_at dqX9_within_p040 2 rfl
theorem dX9_within_5 : decode cX9_within 5 = .ok (.iload_n 0, 1) := dz_at dqX9_within_p040 3 rfl
theorem dX9_within_6 : decode cX9_within 6 = .ok (.iload_n 2, 1) := dz_at dqX9_within_p040 4 rfl
theorem dX9_within_7 : decode cX9_within 7 = .ok (.if_icmp .gt 7, 3) := dz_at dqX9_within_p040 5 rfl
theorem dX9_within_10 : decode cX9_within 10 = .ok (.iconst 1, 1) := dz_at dqX9_within_p040 6 rfl
theorem dX9_within_11 : decode cX9_within 11 = .ok (.goto 4, 3) := dz_at dqX9_within_p040 7 rfl
theorem dX9_within_14 : decode cX9_within 14 = .ok (.iconst 0, 1) := dz_at dqX9_within_p040 8 rfl
theorem dX9_within_15 : decode cX9_within 15 = .ok (.ireturn, 1) := dz_at dqX9_within_p040 9 rfl
set_option maxRecDepth 20000 in
theorem ggX9_isRoom_X9_within : GoodIn wsX9_isRoom wsX9_within := goodIn_r _ [4] rfl (by decide +kernel)
set_option maxRecDepth 20000 in
theorem gX9_isRoom_X9_within : GoodIn wsX9_isRoom (va_wsS RX9 106 yX9_within wsX9_within) := goodIn_app (goodIn_of _ (by decide +kernel)) ggX9_isRoom_X9_within
set_option maxRecDepth 20000 in
theorem dqX9_isRoom_p040 : dz_rn 0 (cX9_isRoom.data.toList.drop 0) [(0, 0), (0, 8), (2, 0), (3, 2), (0, 12)] = some [(0, .iload_n 0, 1), (1, .iconst 0, 1), (2, .bipush 7, 2), (4, .invokestatic 106, 3), (7, .ireturn, 1)] := by decide +kernel
theorem dX9_isRoom_0 : decode cX9_isRoom 0 = .ok (.iload_n 0, 1) := dz_at dqX9_isRoom_p040 0 rfl
theorem dX9_isRoom_1 : decode cX9_isRoom 1 = .ok (.iconst 0, 1) := dz_at dqX9_isRoom_p040 1 rfl
theorem dX9_isRoom_2 : decode cX9_isRoom 2 = .ok (.bipush 7, 2) := dz_at dqX9_isRoom_p040 2 rfl
theorem dX9_isRoom_4 : decode cX9_isRoom 4 = .ok (.invokestatic 106, 3) := dz_at dqX9_isRoom_p040 3 rfl
theorem dX9_isRoom_7 : decode cX9_isRoom 7 = .ok (.ireturn, 1) := dz_at dqX9_isRoom_p040 4 rfl
set_option maxRecDepth 20000 in
theorem ggX9_isCorner_X9_within : GoodIn wsX9_isCorner wsX9_within := goodIn_r _ [4] rfl (by decide +kernel)
set_option maxRecDepth 20000 in
theorem gX9_isCorner_X9_within : GoodIn wsX9_isCorner (va_wsS RX9 106 yX9_within wsX9_within) := goodIn_app (goodIn_of _ (by decide +kernel)) ggX9_isCorner_X9_within
set_option maxRecDepth 20000 in
theorem dqX9_isCorner_p040 : dz_rn 0 (cX9_isCorner.data.toList.drop 0) [(0, 0), (0, 8), (2, 0), (3, 2), (0, 12)] = some [(0, .iload_n 0, 1), (1, .iconst 0, 1), (2, .bipush 47, 2), (4, .invokestatic 106, 3), (7, .ireturn, 1)] := by decide +kernel
theorem dX9_isCorner_0 : decode cX9_isCorner 0 = .ok (.iload_n 0, 1) := dz_at dqX9_isCorner_p040 0 rfl
theorem dX9_isCorner_1 : decode cX9_isCorner 1 = .ok (.iconst 0, 1) := dz_at dqX9_isCorner_p040 1 rfl
theorem dX9_isCorner_2 : decode cX9_isCorner 2 = .ok (.bipush 47, 2) := dz_at dqX9_isCorner_p040 2 rfl
theorem dX9_isCorner_4 : decode cX9_isCorner 4 = .ok (.invokestatic 106, 3) := dz_at dqX9_isCorner_p040 3 rfl
theorem dX9_isCorner_7 : decode cX9_isCorner 7 = .ok (.ireturn, 1) := dz_at dqX9_isCorner_p040 4 rfl
set_option maxRecDepth 20000 in
theorem ggX9_isThing_X9_within : GoodIn wsX9_isThing wsX9_within := goodIn_r _ [4] rfl (by decide +kernel)
set_option maxRecDepth 20000 in
theorem gX9_isThing_X9_within : GoodIn wsX9_isThing (va_wsS RX9 106 yX9_within wsX9_within) := goodIn_app (goodIn_of _ (by decide +kernel)) ggX9_isThing_X9_within
set_option maxRecDepth 20000 in
theorem dqX9_isThing_p040 : dz_rn 0 (cX9_isThing.data.toList.drop 0) [(0, 0), (0, 8), (2, 0), (3, 2), (0, 12)] = some [(0, .iload_n 0, 1), (1, .iconst 0, 1), (2, .bipush 23, 2), (4, .invokestatic 106, 3), (7, .ireturn, 1)] := by decide +kernel
theorem dX9_isThing_0 : decode cX9_isThing 0 = .ok (.iload_n 0, 1) := dz_at dqX9_isThing_p040 0 rfl
theorem dX9_isThing_1 : decode cX9_isThing 1 = .ok (.iconst 0, 1) := dz_at dqX9_isThing_p040 1 rfl
theorem dX9_isThing_2 : decode cX9_isThing 2 = .ok (.bipush 23, 2) := dz_at dqX9_isThing_p040 2 rfl
theorem dX9_isThing_4 : decode cX9_isThing 4 = .ok (.invokestatic 106, 3) := dz_at dqX9_isThing_p040 3 rfl
theorem dX9_isThing_7 : decode cX9_isThing 7 = .ok (.ireturn, 1) := dz_at dqX9_isThing_p040 4 rfl
set_option maxRecDepth 20000 in
theorem ggX9_isFigure_X9_within : GoodIn wsX9_isFigure wsX9_within := goodIn_r _ [4] rfl (by decide +kernel)
set_option maxRecDepth 20000 in
theorem gX9_isFigure_X9_within : GoodIn wsX9_isFigure (va_wsS RX9 106 yX9_within wsX9_within) := goodIn_app (goodIn_of _ (by decide +kernel)) ggX9_isFigure_X9_within
set_option maxRecDepth 20000 in
theorem dqX9_isFigure_p040 : dz_rn 0 (cX9_isFigure.data.toList.drop 0) [(0, 0), (0, 8), (2, 0), (3, 2), (0, 12)] = some [(0, .iload_n 0, 1), (1, .iconst 0, 1), (2, .bipush 9, 2), (4, .invokestatic 106, 3), (7, .ireturn, 1)] := by decide +kernel
theorem dX9_isFigure_0 : decode cX9_isFigure 0 = .ok (.iload_n 0, 1) := dz_at dqX9_isFigure_p040 0 rfl
theorem dX9_isFigure_1 : decode cX9_isFigure 1 = .ok (.iconst 0, 1) := dz_at dqX9_isFigure_p040 1 rfl
theorem dX9_isFigure_2 : decode cX9_isFigure 2 = .ok (.bipush 9, 2) := dz_at dqX9_isFigure_p040 2 rfl
theorem dX9_isFigure_4 : decode cX9_isFigure 4 = .ok (.invokestatic 106, 3) := dz_at dqX9_isFigure_p040 3 rfl
theorem dX9_isFigure_7 : decode cX9_isFigure 7 = .ok (.ireturn, 1) := dz_at dqX9_isFigure_p040 4 rfl
set_option maxRecDepth 20000 in
theorem dqX2_init_p040 : dz_rn 0 (cX2_init.data.toList.drop 0) [(0, 4), (3, 5), (0, 4), (2, 0)] = some [(0, .aload_n 0, 1), (1, .invokespecial 3, 3), (4, .aload_n 0, 1), (5, .bipush 24, 2)] := by decide +kernel
theorem dX2_init_0 : decode cX2_init 0 = .ok (.aload_n 0, 1) := dz_at dqX2_init_p040 0 rfl
theorem dX2_init_1 : decode cX2_init 1 = .ok (.invokespecial 3, 3) := dz_at dqX2_init_p040 1 rfl
theorem dX2_init_4 : decode cX2_init 4 = .ok (.aload_n 0, 1) := dz_at dqX2_init_p040 2 rfl
theorem dX2_init_5 : decode cX2_init 5 = .ok (.bipush 24, 2) := dz_at dqX2_init_p040 3 rfl
theorem dX2_init_7 : decode cX2_init 7 = .ok (.newarray .int, 2) := by decide +kernel
set_option maxRecDepth 20000 in
theorem dqX2_init_p041 : dz_rn 9 (cX2_init.data.toList.drop 9) [(3, 3), (0, 25)] = some [(9, .putfield 9, 3), (12, .return_, 1)] := by decide +kernel
theorem dX2_init_9 : decode cX2_init 9 = .ok (.putfield 9, 3) := dz_at dqX2_init_p041 0 rfl
theorem dX2_init_12 : decode cX2_init 12 = .ok (.return_, 1) := dz_at dqX2_init_p041 1 rfl
set_option maxRecDepth 20000 in
theorem ggX2_shared_J6_bitCount_0f7a4 : GoodIn wsX2_shared wsJ6_bitCount_0f7a4 := goodIn_r _ [5, 6, 7, 8] rfl (by decide +kernel)
set_option maxRecDepth 20000 in
theorem gX2_shared_J6_bitCount_0f7a4 : GoodIn wsX2_shared (va_wsS RX2 15 yJ6_bitCount_0f7a4 wsJ6_bitCount_0f7a4) := goodIn_app (goodIn_of _ (by decide +kernel)) ggX2_shared_J6_bitCount_0f7a4
set_option maxRecDepth 20000 in
theorem dqX2_shared_p040 : dz_rn 0 (cX2_shared.data.toList.drop 0) [(0, 4), (3, 0), (0, 1), (0, 10), (0, 4), (3, 0), (0, 2), (0, 10), (0, 29), (3, 2), (0, 12)] = some [(0, .aload_n 0, 1), (1, .getfield 9, 3), (4, .iload_n 1, 1), (5, .iaload, 1), (6, .aload_n 0, 1), (7, .getfield 9, 3), (10, .iload_n 2, 1), (11, .iaload, 1), (12, .iand, 1), (13, .invokestatic 15, 3), (16, .ireturn, 1)] := by decide +kernel
theorem dX2_shared_0 : decode cX2_shared 0 = .ok (.aload_n 0, 1) := dz_at dqX2_shared_p040 0 rfl
theorem dX2_shared_1 : decode cX2_shared 1 = .ok (.getfield 9, 3) := dz_at dqX2_shared_p040 1 rfl
theorem dX2_shared_4 : decode cX2_shared 4 = .ok (.iload_n 1, 1) := dz_at dqX2_shared_p040 2 rfl
theorem dX2_shared_5 : decode cX2_shared 5 = .ok (.iaload, 1) := dz_at dqX2_shared_p040 3 rfl
theorem dX2_shared_6 : decode cX2_shared 6 = .ok (.aload_n 0, 1) := dz_at dqX2_shared_p040 4 rfl
theorem dX2_shared_7 : decode cX2_shared 7 = .ok (.getfield 9, 3) := dz_at dqX2_shared_p040 5 rfl
theorem dX2_shared_10 : decode cX2_shared 10 = .ok (.iload_n 2, 1) := dz_at dqX2_shared_p040 6 rfl
theorem dX2_shared_11 : decode cX2_shared 11 = .ok (.iaload, 1) := dz_at dqX2_shared_p040 7 rfl
theorem dX2_shared_12 : decode cX2_shared 12 = .ok (.iand, 1) := dz_at dqX2_shared_p040 8 rfl
theorem dX2_shared_13 : decode cX2_shared 13 = .ok (.invokestatic 15, 3) := dz_at dqX2_shared_p040 9 rfl
theorem dX2_shared_16 : decode cX2_shared 16 = .ok (.ireturn, 1) := dz_at dqX2_shared_p040 10 rfl
set_option maxRecDepth 20000 in
theorem ggX8_init_J7_fill_53178 : GoodIn wsX8_init wsJ7_fill_53178 := goodIn_r _ [9] rfl (by decide +kernel)
set_option maxRecDepth 20000 in
theorem gX8_init_J7_fill_53178 : GoodIn wsX8_init (va_wsS RX8 15 yJ7_fill_53178 wsJ7_fill_53178) := goodIn_app (goodIn_of _ (by decide +kernel)) ggX8_init_J7_fill_53178
set_option maxRecDepth 20000 in
theorem dqX8_init_p040 : dz_rn 0 (cX8_init.data.toList.drop 0) [(0, 4), (3, 5), (0, 4), (2, 0)] = some [(0, .aload_n 0, 1), (1, .invokespecial 3, 3), (4, .aload_n 0, 1), (5, .bipush 64, 2)] := by decide +kernel
theorem dX8_init_0 : decode cX8_init 0 = .ok (.aload_n 0, 1) := dz_at dqX8_init_p040 0 rfl
theorem dX8_init_1 : decode cX8_init 1 = .ok (.invokespecial 3, 3) := dz_at dqX8_init_p040 1 rfl
theorem dX8_init_4 : decode cX8_init 4 = .ok (.aload_n 0, 1) := dz_at dqX8_init_p040 2 rfl
theorem dX8_init_5 : decode cX8_init 5 = .ok (.bipush 64, 2) := dz_at dqX8_init_p040 3 rfl
theorem dX8_init_7 : decode cX8_init 7 = .ok (.newarray .int, 2) := by decide +kernel
set_option maxRecDepth 20000 in
theorem dqX8_init_p041 : dz_rn 9 (cX8_init.data.toList.drop 9) [(3, 3), (0, 4), (3, 0), (0, 13), (3, 2), (0, 8), (0, 19), (0, 1), (2, 0), (4, 4), (0, 4), (3, 0), (0, 1), (2, 0)] = some [(9, .putfield 9, 3), (12, .aload_n 0, 1), (13, .getfield 9, 3), (16, .iconst (-1), 1), (17, .invokestatic 15, 3), (20, .iconst 0, 1), (21, .istore_n 1, 1), (22, .iload_n 1, 1), (23, .bipush 8, 2), (25, .if_icmp .ge 21, 3), (28, .aload_n 0, 1), (29, .getfield 9, 3), (32, .iload_n 1, 1), (33, .bipush 8, 2)] := by decide +kernel
theorem dX8_init_9 : decode cX8_init 9 = .ok (.putfield 9, 3) := dz_at dqX8_init_p041 0 rfl
theorem dX8_init_12 : decode cX8_init 12 = .ok (.aload_n 0, 1) := dz_at dqX8_init_p041 1 rfl
theorem dX8_init_13 : decode cX8_init 13 = .ok (.getfield 9, 3) := dz_at dqX8_init_p041 2 rfl
theorem dX8_init_16 : decode cX8_init 16 = .ok (.iconst (-1), 1) := dz_at dqX8_init_p041 3 rfl
theorem dX8_init_17 : decode cX8_init 17 = .ok (.invokestatic 15, 3) := dz_at dqX8_init_p041 4 rfl
theorem dX8_init_20 : decode cX8_init 20 = .ok (.iconst 0, 1) := dz_at dqX8_init_p041 5 rfl
theorem dX8_init_21 : decode cX8_init 21 = .ok (.istore_n 1, 1) := dz_at dqX8_init_p041 6 rfl
theorem dX8_init_22 : decode cX8_init 22 = .ok (.iload_n 1, 1) := dz_at dqX8_init_p041 7 rfl
theorem dX8_init_23 : decode cX8_init 23 = .ok (.bipush 8, 2) := dz_at dqX8_init_p041 8 rfl
theorem dX8_init_25 : decode cX8_init 25 = .ok (.if_icmp .ge 21, 3) := dz_at dqX8_init_p041 9 rfl
theorem dX8_init_28 : decode cX8_init 28 = .ok (.aload_n 0, 1) := dz_at dqX8_init_p041 10 rfl
theorem dX8_init_29 : decode cX8_init 29 = .ok (.getfield 9, 3) := dz_at dqX8_init_p041 11 rfl
theorem dX8_init_32 : decode cX8_init 32 = .ok (.iload_n 1, 1) := dz_at dqX8_init_p041 12 rfl
theorem dX8_init_33 : decode cX8_init 33 = .ok (.bipush 8, 2) := dz_at dqX8_init_p041 13 rfl
set_option maxRecDepth 20000 in
theorem dqX8_init_p042 : dz_rn 35 (cX8_init.data.toList.drop 35) [(0, 23), (0, 1), (0, 11), (0, 8), (0, 22), (5, 0), (4, 0), (0, 25)] = some [(35, .imul, 1), (36, .iload_n 1, 1), (37, .iadd, 1), (38, .iconst 0, 1), (39, .iastore, 1), (40, .iinc 1 1, 3), (43, .goto (-21), 3), (46, .return_, 1)] := by decide +kernel
theorem dX8_init_35 : decode cX8_init 35 = .ok (.imul, 1) := dz_at dqX8_init_p042 0 rfl
theorem dX8_init_36 : decode cX8_init 36 = .ok (.iload_n 1, 1) := dz_at dqX8_init_p042 1 rfl
theorem dX8_init_37 : decode cX8_init 37 = .ok (.iadd, 1) := dz_at dqX8_init_p042 2 rfl
theorem dX8_init_38 : decode cX8_init 38 = .ok (.iconst 0, 1) := dz_at dqX8_init_p042 3 rfl
theorem dX8_init_39 : decode cX8_init 39 = .ok (.iastore, 1) := dz_at dqX8_init_p042 4 rfl
theorem dX8_init_40 : decode cX8_init 40 = .ok (.iinc 1 1, 3) := dz_at dqX8_init_p042 5 rfl
theorem dX8_init_43 : decode cX8_init 43 = .ok (.goto (-21), 3) := dz_at dqX8_init_p042 6 rfl
theorem dX8_init_46 : decode cX8_init 46 = .ok (.return_, 1) := dz_at dqX8_init_p042 7 rfl
set_option maxRecDepth 20000 in
theorem dqX8_between_p040 : dz_rn 0 (cX8_between.data.toList.drop 0) [(0, 4), (3, 0), (0, 1), (2, 0), (0, 23), (0, 2), (0, 11), (0, 10), (0, 12)] = some [(0, .aload_n 0, 1), (1, .getfield 9, 3), (4, .iload_n 1, 1), (5, .bipush 8, 2), (7, .imul, 1), (8, .iload_n 2, 1), (9, .iadd, 1), (10, .iaload, 1), (11, .ireturn, 1)] := by decide +kernel
theorem dX8_between_0 : decode cX8_between 0 = .ok (.aload_n 0, 1) := dz_at dqX8_between_p040 0 rfl
theorem dX8_between_1 : decode cX8_between 1 = .ok (.getfield 9, 3) := dz_at dqX8_between_p040 1 rfl
theorem dX8_between_4 : decode cX8_between 4 = .ok (.iload_n 1, 1) := dz_at dqX8_between_p040 2 rfl
theorem dX8_between_5 : decode cX8_between 5 = .ok (.bipush 8, 2) := dz_at dqX8_between_p040 3 rfl
theorem dX8_between_7 : decode cX8_between 7 = .ok (.imul, 1) := dz_at dqX8_between_p040 4 rfl
theorem dX8_between_8 : decode cX8_between 8 = .ok (.iload_n 2, 1) := dz_at dqX8_between_p040 5 rfl
theorem dX8_between_9 : decode cX8_between 9 = .ok (.iadd, 1) := dz_at dqX8_between_p040 6 rfl
theorem dX8_between_10 : decode cX8_between 10 = .ok (.iaload, 1) := dz_at dqX8_between_p040 7 rfl
theorem dX8_between_11 : decode cX8_between 11 = .ok (.ireturn, 1) := dz_at dqX8_between_p040 8 rfl
set_option maxRecDepth 20000 in
theorem ggX8_joined_X8_between : GoodIn wsX8_joined wsX8_between := goodIn_r _ [5, 6, 7, 8] rfl (by decide +kernel)
set_option maxRecDepth 20000 in
theorem gX8_joined_X8_between : GoodIn wsX8_joined (wsV RX8 21 RX8 yX8_between wsX8_between) := goodIn_app (goodIn_of _ (by decide +kernel)) ggX8_joined_X8_between
set_option maxRecDepth 20000 in
theorem dqX8_joined_p040 : dz_rn 0 (cX8_joined.data.toList.drop 0) [(0, 4), (0, 1), (0, 2), (3, 1), (0, 9), (4, 2), (0, 9), (4, 0), (0, 8), (0, 12)] = some [(0, .aload_n 0, 1), (1, .iload_n 1, 1), (2, .iload_n 2, 1), (3, .invokevirtual 21, 3), (6, .iconst 1, 1), (7, .if_icmp .ne 7, 3), (10, .iconst 1, 1), (11, .goto 4, 3), (14, .iconst 0, 1), (15, .ireturn, 1)] := by decide +kernel
theorem dX8_joined_0 : decode cX8_joined 0 = .ok (.aload_n 0, 1) := dz_at dqX8_joined_p040 0 rfl
theorem dX8_joined_1 : decode cX8_joined 1 = .ok (.iload_n 1, 1) := dz_at dqX8_joined_p040 1 rfl
theorem dX8_joined_2 : decode cX8_joined 2 = .ok (.iload_n 2, 1) := dz_at dqX8_joined_p040 2 rfl
theorem dX8_joined_3 : decode cX8_joined 3 = .ok (.invokevirtual 21, 3) := dz_at dqX8_joined_p040 3 rfl
theorem dX8_joined_6 : decode cX8_joined 6 = .ok (.iconst 1, 1) := dz_at dqX8_joined_p040 4 rfl
theorem dX8_joined_7 : decode cX8_joined 7 = .ok (.if_icmp .ne 7, 3) := dz_at dqX8_joined_p040 5 rfl
theorem dX8_joined_10 : decode cX8_joined 10 = .ok (.iconst 1, 1) := dz_at dqX8_joined_p040 6 rfl
theorem dX8_joined_11 : decode cX8_joined 11 = .ok (.goto 4, 3) := dz_at dqX8_joined_p040 7 rfl
theorem dX8_joined_14 : decode cX8_joined 14 = .ok (.iconst 0, 1) := dz_at dqX8_joined_p040 8 rfl
theorem dX8_joined_15 : decode cX8_joined 15 = .ok (.ireturn, 1) := dz_at dqX8_joined_p040 9 rfl
set_option maxRecDepth 20000 in
theorem ggX8_join_X8_between : GoodIn wsX8_join wsX8_between := goodIn_r _ [6, 7, 12, 13] rfl (by decide +kernel)
set_option maxRecDepth 20000 in
theorem gX8_join_X8_between : GoodIn wsX8_join (wsV RX8 21 RX8 yX8_between wsX8_between) := goodIn_app (goodIn_of _ (by decide +kernel)) ggX8_join_X8_between
set_option maxRecDepth 20000 in
theorem ggX8_join_X8_shorten : GoodIn wsX8_join wsX8_shorten := goodIn_r _ [11, 7, 2, 3, 4, 5, 6, 12, 13] rfl (by decide +kernel)
set_option maxRecDepth 20000 in
theorem gX8_join_X8_shorten : GoodIn wsX8_join (wsV RX8 29 RX8 yX8_shorten wsX8_shorten) := goodIn_app (goodIn_of _ (by decide +kernel)) ggX8_join_X8_shorten
set_option maxRecDepth 20000 in
theorem dqX8_join_p040 : dz_rn 0 (cX8_join.data.toList.drop 0) [(0, 4), (0, 28), (3, 0), (0, 9), (0, 11), (3, 3), (0, 8), (0, 21), (0, 3), (2, 0), (4, 4), (0, 8), (1, 1), (1, 0)] = some [(0, .aload_n 0, 1), (1, .dup, 1), (2, .getfield 25, 3), (5, .iconst 1, 1), (6, .iadd, 1), (7, .putfield 25, 3), (10, .iconst 0, 1), (11, .istore_n 3, 1), (12, .iload_n 3, 1), (13, .bipush 8, 2), (15, .if_icmp .ge 65, 3), (18, .iconst 0, 1), (19, .istore 4, 2), (21, .iload 4, 2)] := by decide +kernel
theorem dX8_join_0 : decode cX8_join 0 = .ok (.aload_n 0, 1) := dz_at dqX8_join_p040 0 rfl
theorem dX8_join_1 : decode cX8_join 1 = .ok (.dup, 1) := dz_at dqX8_join_p040 1 rfl
theorem dX8_join_2 : decode cX8_join 2 = .ok (.getfield 25, 3) := dz_at dqX8_join_p040 2 rfl
theorem dX8_join_5 : decode cX8_join 5 = .ok (.iconst 1, 1) := dz_at dqX8_join_p040 3 rfl
theorem dX8_join_6 : decode cX8_join 6 = .ok (.iadd, 1) := dz_at dqX8_join_p040 4 rfl
theorem dX8_join_7 : decode cX8_join 7 = .ok (.putfield 25, 3) := dz_at dqX8_join_p040 5 rfl
theorem dX8_join_10 : decode cX8_join 10 = .ok (.iconst 0, 1) := dz_at dqX8_join_p040 6 rfl
theorem dX8_join_11 : decode cX8_join 11 = .ok (.istore_n 3, 1) := dz_at dqX8_join_p040 7 rfl
theorem dX8_join_12 : decode cX8_join 12 = .ok (.iload_n 3, 1) := dz_at dqX8_join_p040 8 rfl
theorem dX8_join_13 : decode cX8_join 13 = .ok (.bipush 8, 2) := dz_at dqX8_join_p040 9 rfl
theorem dX8_join_15 : decode cX8_join 15 = .ok (.if_icmp .ge 65, 3) := dz_at dqX8_join_p040 10 rfl
theorem dX8_join_18 : decode cX8_join 18 = .ok (.iconst 0, 1) := dz_at dqX8_join_p040 11 rfl
theorem dX8_join_19 : decode cX8_join 19 = .ok (.istore 4, 2) := dz_at dqX8_join_p040 12 rfl
theorem dX8_join_21 : decode cX8_join 21 = .ok (.iload 4, 2) := dz_at dqX8_join_p040 13 rfl
set_option maxRecDepth 20000 in
theorem dqX8_join_p041 : dz_rn 23 (cX8_join.data.toList.drop 23) [(2, 0), (4, 4), (0, 4), (0, 3), (1, 0), (0, 4), (0, 3), (0, 1), (3, 1), (0, 4), (0, 2), (1, 0), (3, 1), (3, 1)] = some [(23, .bipush 8, 2), (25, .if_icmp .ge 49, 3), (28, .aload_n 0, 1), (29, .iload_n 3, 1), (30, .iload 4, 2), (32, .aload_n 0, 1), (33, .iload_n 3, 1), (34, .iload_n 1, 1), (35, .invokevirtual 21, 3), (38, .aload_n 0, 1), (39, .iload_n 2, 1), (40, .iload 4, 2), (42, .invokevirtual 21, 3), (45, .invokevirtual 29, 3)] := by decide +kernel
theorem dX8_join_23 : decode cX8_join 23 = .ok (.bipush 8, 2) := dz_at dqX8_join_p041 0 rfl
theorem dX8_join_25 : decode cX8_join 25 = .ok (.if_icmp .ge 49, 3) := dz_at dqX8_join_p041 1 rfl
theorem dX8_join_28 : decode cX8_join 28 = .ok (.aload_n 0, 1) := dz_at dqX8_join_p041 2 rfl
theorem dX8_join_29 : decode cX8_join 29 = .ok (.iload_n 3, 1) := dz_at dqX8_join_p041 3 rfl
theorem dX8_join_30 : decode cX8_join 30 = .ok (.iload 4, 2) := dz_at dqX8_join_p041 4 rfl
theorem dX8_join_32 : decode cX8_join 32 = .ok (.aload_n 0, 1) := dz_at dqX8_join_p041 5 rfl
theorem dX8_join_33 : decode cX8_join 33 = .ok (.iload_n 3, 1) := dz_at dqX8_join_p041 6 rfl
theorem dX8_join_34 : decode cX8_join 34 = .ok (.iload_n 1, 1) := dz_at dqX8_join_p041 7 rfl
theorem dX8_join_35 : decode cX8_join 35 = .ok (.invokevirtual 21, 3) := dz_at dqX8_join_p041 8 rfl
theorem dX8_join_38 : decode cX8_join 38 = .ok (.aload_n 0, 1) := dz_at dqX8_join_p041 9 rfl
theorem dX8_join_39 : decode cX8_join 39 = .ok (.iload_n 2, 1) := dz_at dqX8_join_p041 10 rfl
theorem dX8_join_40 : decode cX8_join 40 = .ok (.iload 4, 2) := dz_at dqX8_join_p041 11 rfl
theorem dX8_join_42 : decode cX8_join 42 = .ok (.invokevirtual 21, 3) := dz_at dqX8_join_p041 12 rfl
theorem dX8_join_45 : decode cX8_join 45 = .ok (.invokevirtual 29, 3) := dz_at dqX8_join_p041 13 rfl
set_option maxRecDepth 20000 in
theorem dqX8_join_p042 : dz_rn 48 (cX8_join.data.toList.drop 48) [(0, 4), (0, 3), (1, 0), (0, 4), (0, 3), (0, 2), (3, 1), (0, 4), (0, 1), (1, 0), (3, 1), (3, 1), (5, 0), (4, 0)] = some [(48, .aload_n 0, 1), (49, .iload_n 3, 1), (50, .iload 4, 2), (52, .aload_n 0, 1), (53, .iload_n 3, 1), (54, .iload_n 2, 1), (55, .invokevirtual 21, 3), (58, .aload_n 0, 1), (59, .iload_n 1, 1), (60, .iload 4, 2), (62, .invokevirtual 21, 3), (65, .invokevirtual 29, 3), (68, .iinc 4 1, 3), (71, .goto (-50), 3)] := by decide +kernel
theorem dX8_join_48 : decode cX8_join 48 = .ok (.aload_n 0, 1) := dz_at dqX8_join_p042 0 rfl
theorem dX8_join_49 : decode cX8_join 49 = .ok (.iload_n 3, 1) := dz_at dqX8_join_p042 1 rfl
theorem dX8_join_50 : decode cX8_join 50 = .ok (.iload 4, 2) := dz_at dqX8_join_p042 2 rfl
theorem dX8_join_52 : decode cX8_join 52 = .ok (.aload_n 0, 1) := dz_at dqX8_join_p042 3 rfl
theorem dX8_join_53 : decode cX8_join 53 = .ok (.iload_n 3, 1) := dz_at dqX8_join_p042 4 rfl
theorem dX8_join_54 : decode cX8_join 54 = .ok (.iload_n 2, 1) := dz_at dqX8_join_p042 5 rfl
theorem dX8_join_55 : decode cX8_join 55 = .ok (.invokevirtual 21, 3) := dz_at dqX8_join_p042 6 rfl
theorem dX8_join_58 : decode cX8_join 58 = .ok (.aload_n 0, 1) := dz_at dqX8_join_p042 7 rfl
theorem dX8_join_59 : decode cX8_join 59 = .ok (.iload_n 1, 1) := dz_at dqX8_join_p042 8 rfl
theorem dX8_join_60 : decode cX8_join 60 = .ok (.iload 4, 2) := dz_at dqX8_join_p042 9 rfl
theorem dX8_join_62 : decode cX8_join 62 = .ok (.invokevirtual 21, 3) := dz_at dqX8_join_p042 10 rfl
theorem dX8_join_65 : decode cX8_join 65 = .ok (.invokevirtual 29, 3) := dz_at dqX8_join_p042 11 rfl
theorem dX8_join_68 : decode cX8_join 68 = .ok (.iinc 4 1, 3) := dz_at dqX8_join_p042 12 rfl
theorem dX8_join_71 : decode cX8_join 71 = .ok (.goto (-50), 3) := dz_at dqX8_join_p042 13 rfl
set_option maxRecDepth 20000 in
theorem dqX8_join_p043 : dz_rn 74 (cX8_join.data.toList.drop 74) [(5, 0), (4, 0), (0, 25)] = some [(74, .iinc 3 1, 3), (77, .goto (-65), 3), (80, .return_, 1)] := by decide +kernel
theorem dX8_join_74 : decode cX8_join 74 = .ok (.iinc 3 1, 3) := dz_at dqX8_join_p043 0 rfl
theorem dX8_join_77 : decode cX8_join 77 = .ok (.goto (-65), 3) := dz_at dqX8_join_p043 1 rfl
theorem dX8_join_80 : decode cX8_join 80 = .ok (.return_, 1) := dz_at dqX8_join_p043 2 rfl
set_option maxRecDepth 20000 in
theorem ggX8_shorten_X8_between : GoodIn wsX8_shorten wsX8_between := goodIn_r _ [6, 1, 7, 8] rfl (by decide +kernel)
set_option maxRecDepth 20000 in
theorem gX8_shorten_X8_between : GoodIn wsX8_shorten (wsV RX8 21 RX8 yX8_between wsX8_between) := goodIn_app (goodIn_of _ (by decide +kernel)) ggX8_shorten_X8_between
set_option maxRecDepth 20000 in
theorem dqX8_shorten_p040 : dz_rn 0 (cX8_shorten.data.toList.drop 0) [(0, 3), (0, 13), (4, 1), (1, 0), (0, 13), (4, 2), (0, 25), (0, 4), (0, 1), (0, 2), (3, 1), (1, 1), (0, 3), (0, 9)] = some [(0, .iload_n 3, 1), (1, .iconst (-1), 1), (2, .if_icmp .eq 9, 3), (5, .iload 4, 2), (7, .iconst (-1), 1), (8, .if_icmp .ne 4, 3), (11, .return_, 1), (12, .aload_n 0, 1), (13, .iload_n 1, 1), (14, .iload_n 2, 1), (15, .invokevirtual 21, 3), (18, .istore 5, 2), (20, .iload_n 3, 1), (21, .iconst 1, 1)] := by decide +kernel
theorem dX8_shorten_0 : decode cX8_shorten 0 = .ok (.iload_n 3, 1) := dz_at dqX8_shorten_p040 0 rfl
theorem dX8_shorten_1 : decode cX8_shorten 1 = .ok (.iconst (-1), 1) := dz_at dqX8_shorten_p040 1 rfl
theorem dX8_shorten_2 : decode cX8_shorten 2 = .ok (.if_icmp .eq 9, 3) := dz_at dqX8_shorten_p040 2 rfl
theorem dX8_shorten_5 : decode cX8_shorten 5 = .ok (.iload 4, 2) := dz_at dqX8_shorten_p040 3 rfl
theorem dX8_shorten_7 : decode cX8_shorten 7 = .ok (.iconst (-1), 1) := dz_at dqX8_shorten_p040 4 rfl
theorem dX8_shorten_8 : decode cX8_shorten 8 = .ok (.if_icmp .ne 4, 3) := dz_at dqX8_shorten_p040 5 rfl
theorem dX8_shorten_11 : decode cX8_shorten 11 = .ok (.return_, 1) := dz_at dqX8_shorten_p040 6 rfl
theorem dX8_shorten_12 : decode cX8_shorten 12 = .ok (.aload_n 0, 1) := dz_at dqX8_shorten_p040 7 rfl
theorem dX8_shorten_13 : decode cX8_shorten 13 = .ok (.iload_n 1, 1) := dz_at dqX8_shorten_p040 8 rfl
theorem dX8_shorten_14 : decode cX8_shorten 14 = .ok (.iload_n 2, 1) := dz_at dqX8_shorten_p040 9 rfl
theorem dX8_shorten_15 : decode cX8_shorten 15 = .ok (.invokevirtual 21, 3) := dz_at dqX8_shorten_p040 10 rfl
theorem dX8_shorten_18 : decode cX8_shorten 18 = .ok (.istore 5, 2) := dz_at dqX8_shorten_p040 11 rfl
theorem dX8_shorten_20 : decode cX8_shorten 20 = .ok (.iload_n 3, 1) := dz_at dqX8_shorten_p040 12 rfl
theorem dX8_shorten_21 : decode cX8_shorten 21 = .ok (.iconst 1, 1) := dz_at dqX8_shorten_p040 13 rfl
set_option maxRecDepth 20000 in
theorem dqX8_shorten_p041 : dz_rn 22 (cX8_shorten.data.toList.drop 22) [(0, 11), (1, 0), (0, 11), (1, 1), (1, 0), (0, 13), (4, 1), (1, 0), (1, 0), (4, 4), (0, 4), (3, 0), (0, 1), (2, 0)] = some [(22, .iadd, 1), (23, .iload 4, 2), (25, .iadd, 1), (26, .istore 6, 2), (28, .iload 5, 2), (30, .iconst (-1), 1), (31, .if_icmp .eq 10, 3), (34, .iload 6, 2), (36, .iload 5, 2), (38, .if_icmp .ge 16, 3), (41, .aload_n 0, 1), (42, .getfield 9, 3), (45, .iload_n 1, 1), (46, .bipush 8, 2)] := by decide +kernel
theorem dX8_shorten_22 : decode cX8_shorten 22 = .ok (.iadd, 1) := dz_at dqX8_shorten_p041 0 rfl
theorem dX8_shorten_23 : decode cX8_shorten 23 = .ok (.iload 4, 2) := dz_at dqX8_shorten_p041 1 rfl
theorem dX8_shorten_25 : decode cX8_shorten 25 = .ok (.iadd, 1) := dz_at dqX8_shorten_p041 2 rfl
theorem dX8_shorten_26 : decode cX8_shorten 26 = .ok (.istore 6, 2) := dz_at dqX8_shorten_p041 3 rfl
theorem dX8_shorten_28 : decode cX8_shorten 28 = .ok (.iload 5, 2) := dz_at dqX8_shorten_p041 4 rfl
theorem dX8_shorten_30 : decode cX8_shorten 30 = .ok (.iconst (-1), 1) := dz_at dqX8_shorten_p041 5 rfl
theorem dX8_shorten_31 : decode cX8_shorten 31 = .ok (.if_icmp .eq 10, 3) := dz_at dqX8_shorten_p041 6 rfl
theorem dX8_shorten_34 : decode cX8_shorten 34 = .ok (.iload 6, 2) := dz_at dqX8_shorten_p041 7 rfl
theorem dX8_shorten_36 : decode cX8_shorten 36 = .ok (.iload 5, 2) := dz_at dqX8_shorten_p041 8 rfl
theorem dX8_shorten_38 : decode cX8_shorten 38 = .ok (.if_icmp .ge 16, 3) := dz_at dqX8_shorten_p041 9 rfl
theorem dX8_shorten_41 : decode cX8_shorten 41 = .ok (.aload_n 0, 1) := dz_at dqX8_shorten_p041 10 rfl
theorem dX8_shorten_42 : decode cX8_shorten 42 = .ok (.getfield 9, 3) := dz_at dqX8_shorten_p041 11 rfl
theorem dX8_shorten_45 : decode cX8_shorten 45 = .ok (.iload_n 1, 1) := dz_at dqX8_shorten_p041 12 rfl
theorem dX8_shorten_46 : decode cX8_shorten 46 = .ok (.bipush 8, 2) := dz_at dqX8_shorten_p041 13 rfl
set_option maxRecDepth 20000 in
theorem dqX8_shorten_p042 : dz_rn 48 (cX8_shorten.data.toList.drop 48) [(0, 23), (0, 2), (0, 11), (1, 0), (0, 22), (0, 25)] = some [(48, .imul, 1), (49, .iload_n 2, 1), (50, .iadd, 1), (51, .iload 6, 2), (53, .iastore, 1), (54, .return_, 1)] := by decide +kernel
theorem dX8_shorten_48 : decode cX8_shorten 48 = .ok (.imul, 1) := dz_at dqX8_shorten_p042 0 rfl
theorem dX8_shorten_49 : decode cX8_shorten 49 = .ok (.iload_n 2, 1) := dz_at dqX8_shorten_p042 1 rfl
theorem dX8_shorten_50 : decode cX8_shorten 50 = .ok (.iadd, 1) := dz_at dqX8_shorten_p042 2 rfl
theorem dX8_shorten_51 : decode cX8_shorten 51 = .ok (.iload 6, 2) := dz_at dqX8_shorten_p042 3 rfl
theorem dX8_shorten_53 : decode cX8_shorten 53 = .ok (.iastore, 1) := dz_at dqX8_shorten_p042 4 rfl
theorem dX8_shorten_54 : decode cX8_shorten 54 = .ok (.return_, 1) := dz_at dqX8_shorten_p042 5 rfl
def bc (x : Int32) : Int32 :=
  let x1 := x - (((x.toUInt32 >>> ((1 : Int32).toUInt32 &&& Int32.toUInt32 31)).toInt32) &&& 1431655765)
  let x2 := (x1 &&& 858993459) + (((x1.toUInt32 >>> ((2 : Int32).toUInt32 &&& Int32.toUInt32 31)).toInt32) &&& 858993459)
  let x3 := (x2 + ((x2.toUInt32 >>> ((4 : Int32).toUInt32 &&& Int32.toUInt32 31)).toInt32)) &&& 252645135
  let x4 := x3 + ((x3.toUInt32 >>> ((8 : Int32).toUInt32 &&& Int32.toUInt32 31)).toInt32)
  let x5 := x4 + ((x4.toUInt32 >>> ((16 : Int32).toUInt32 &&& Int32.toUInt32 31)).toInt32)
  x5 &&& 63
abbrev wNil (cI cZ cQ : ClassId) : va_W := []
abbrev wWys (cI cZ cQ : ClassId) (a : Nat → Nat) (few : Nat → Int32) (doo : Int32) : va_W := [((a 0), .inr (8, [.ref (a 1), .int doo])), ((a 1), .inl (cI, 64, .inl few))]
abbrev wPic (cI cZ cQ : ClassId) (a : Nat → Nat) (mar : Nat → Int32) : va_W := [((a 2), .inr (2, [.ref (a 3)])), ((a 3), .inl (cI, 24, .inl mar))]
abbrev wCor (cI cZ cQ : ClassId) (a : Nat → Nat) (top : Nat → Int32) (str : Nat → Int32) (gho : Nat → Int32) (ghs : Nat → Int32) (pto : Nat → Int32) (cro : Nat → Int32) (pla : Nat → Int32) (wal : Nat → Int32) (fal : Nat → Int32) (tel : Int32) (gai : Int32) (day : Int32) (mar : Nat → Int32) : va_W := [((a 4), .inr (1, [.ref (a 2), .ref (a 5), .ref (a 6), .ref (a 7), .ref (a 8), .ref (a 9), .ref (a 10), .ref (a 11), .ref (a 12), .ref (a 13), .int tel, .int gai, .int day])), ((a 5), .inl (cI, 48, .inl top)), ((a 6), .inl (cI, 48, .inl str)), ((a 7), .inl (cI, 48, .inl gho)), ((a 8), .inl (cI, 48, .inl ghs)), ((a 9), .inl (cI, 48, .inl pto)), ((a 10), .inl (cI, 48, .inl cro)), ((a 11), .inl (cI, 24, .inl pla)), ((a 12), .inl (cI, 8, .inl wal)), ((a 13), .inl (cI, 11, .inl fal)), ((a 2), .inr (2, [.ref (a 3)])), ((a 3), .inl (cI, 24, .inl mar))]
abbrev wTxt (cI cZ cQ : ClassId) (a : Nat → Nat) (byt : Nat → Int32) (len : Int32) (tst : Int32) (ten : Int32) : va_W := [((a 14), .inr (7, [.ref (a 15), .int len, .int tst, .int ten])), ((a 15), .inl (cI, 160, .inl byt))]
abbrev wRul (cI cZ cQ : ClassId) (rb0 : Nat) (rb1 : Nat) (rb2 : Nat) (mos : Nat → Int32) (wev : Nat → Int32) (aga : Int32) (apa : Int32) (lin : Int32) : va_W := [(rb0, .inr (5, [.ref rb1, .ref rb2, .int aga, .int apa, .int lin])), (rb1, .inl (cI, 8, .inl mos)), (rb2, .inl (cI, 8, .inl wev))]
abbrev wTxR (cI cZ cQ : ClassId) (a : Nat → Nat) (rb0 : Nat) (rb1 : Nat) (rb2 : Nat) (byt : Nat → Int32) (len : Int32) (tst : Int32) (ten : Int32) (mos : Nat → Int32) (wev : Nat → Int32) (aga : Int32) (apa : Int32) (lin : Int32) : va_W := [((a 14), .inr (7, [.ref (a 15), .int len, .int tst, .int ten])), ((a 15), .inl (cI, 160, .inl byt)), (rb0, .inr (5, [.ref rb1, .ref rb2, .int aga, .int apa, .int lin])), (rb1, .inl (cI, 8, .inl mos)), (rb2, .inl (cI, 8, .inl wev))]
abbrev wPln (cI cZ cQ : ClassId) (a : Nat → Nat) (min : Nat → Int32) (tri : Nat → Int32) (bes : Nat → Int32) (wkd : Nat → Int32) (cos : Nat → Int32) (rst : Nat → Int32) (bst : Int32) (top : Nat → Int32) (str : Nat → Int32) (gho : Nat → Int32) (ghs : Nat → Int32) (pto : Nat → Int32) (cro : Nat → Int32) (pla : Nat → Int32) (wal : Nat → Int32) (fal : Nat → Int32) (tel : Int32) (gai : Int32) (day : Int32) (mar : Nat → Int32) (few : Nat → Int32) (doo : Int32) : va_W := [((a 16), .inr (3, [.ref (a 4), .ref (a 0), .ref (a 17), .ref (a 18), .ref (a 19), .ref (a 20), .ref (a 21), .ref (a 22), .int bst])), ((a 17), .inl (cI, 4, .inl min)), ((a 18), .inl (cI, 4, .inl tri)), ((a 19), .inl (cI, 4, .inl bes)), ((a 20), .inl (cI, 8, .inl wkd)), ((a 21), .inl (cI, 8, .inl cos)), ((a 22), .inl (cI, 128, .inl rst)), ((a 4), .inr (1, [.ref (a 2), .ref (a 5), .ref (a 6), .ref (a 7), .ref (a 8), .ref (a 9), .ref (a 10), .ref (a 11), .ref (a 12), .ref (a 13), .int tel, .int gai, .int day])), ((a 5), .inl (cI, 48, .inl top)), ((a 6), .inl (cI, 48, .inl str)), ((a 7), .inl (cI, 48, .inl gho)), ((a 8), .inl (cI, 48, .inl ghs)), ((a 9), .inl (cI, 48, .inl pto)), ((a 10), .inl (cI, 48, .inl cro)), ((a 11), .inl (cI, 24, .inl pla)), ((a 12), .inl (cI, 8, .inl wal)), ((a 13), .inl (cI, 11, .inl fal)), ((a 2), .inr (2, [.ref (a 3)])), ((a 3), .inl (cI, 24, .inl mar)), ((a 0), .inr (8, [.ref (a 1), .int doo])), ((a 1), .inl (cI, 64, .inl few))]
abbrev wSpe (cI cZ cQ : ClassId) (a : Nat → Nat) (sor : Nat → Int32) (ord : Nat → Int32) (sha : Nat → Int32) (toc : Nat → Int32) (mar : Nat → Int32) (tol : Nat → Int32) : va_W := [((a 23), .inr (6, [.ref (a 2), .ref (a 24), .ref (a 25), .ref (a 26), .ref (a 27)])), ((a 24), .inl (cI, 8, .inl sor)), ((a 25), .inl (cI, 8, .inl ord)), ((a 26), .inl (cI, 64, .inl sha)), ((a 27), .inl (cI, 2048, .inl toc)), ((a 2), .inr (2, [.ref (a 3)])), ((a 3), .inl (cI, 24, .inl mar)), ((a 42), .inl (cI, 8, .inl tol))]
abbrev wCod (cI cZ cQ : ClassId) (a : Nat → Nat) (ali : Nat → Int32) (thi : Nat → Int32) (ctr : Nat → Int32) (cbe : Nat → Int32) (har : Int32) (mar : Nat → Int32) (tol : Nat → Int32) : va_W := [((a 28), .inr (0, [.ref (a 2), .ref (a 29), .ref (a 30), .ref (a 31), .ref (a 32), .int har])), ((a 29), .inl (cI, 100, .inl ali)), ((a 30), .inl (cI, 8, .inl thi)), ((a 31), .inl (cI, 6, .inl ctr)), ((a 32), .inl (cI, 6, .inl cbe)), ((a 2), .inr (2, [.ref (a 3)])), ((a 3), .inl (cI, 24, .inl mar)), ((a 42), .inl (cI, 8, .inl tol))]
abbrev wPup (cI cZ cQ : ClassId) (pu0 : Nat) (pu1 : Nat) (agr : Nat → Int32) (ans : Int32) : va_W := [(pu0, .inr (4, [.ref pu1, .int ans])), (pu1, .inl (cI, 81, .inl agr))]
abbrev wArr (cI cZ cQ : ClassId) (ar0 : Nat) (ln : Nat) (fv : Nat → Int32) : va_W := [(ar0, .inl (cI, ln, .inl fv))]
set_option maxHeartbeats 4000000 in
set_option maxRecDepth 100000 in
theorem k_J6_bitCount_0f7a4 (l : Launch) (dC : Nat → ClassId) (dI : Nat → Nat → Nat) (cI cZ cQ : ClassId) (x : Int32)  : KR l yJ6_bitCount_0f7a4 wsJ6_bitCount_0f7a4 { frames := 0, cells := 0, slots := 0, locals := 0 } (dC, dI) (TY cI cZ cQ) (wNil cI cZ cQ) [.int x] (fun r : Int32 => (r = bc x)) := by
  refine Met.ofW (cc := cJ6_bitCount_0f7a4) (maxL := 1) (ret := (some .int)) (by decide) rfl ?_
  intro p e s m args below meth c s₁ B hml hv
  obtain ⟨rfl, hP, hK, hN⟩ := hv
  have hx := B.exec
  have hb := B.bytes
  have hr := B.returns
  have hts := atoms_spec (ws := wsJ6_bitCount_0f7a4) B.pre
  have hown : s.vm.findClass RJ6 = some m.cls := findClass_of_methodNamed B.named
  have hlocks := B.notSynchronized
  have hl := lv_entry ([.int x]) (n := 1) (Nat.le_of_ble_eq_true rfl)
  rw [lg_entry_eq]
  generalize (lg_sl ([.int x]) ++ List.replicate (1 - (lg_sl ([.int x])).length) Slot.unset).toArray = ls at hl ⊢
  have hl : lv_has ls 1 [(0, .int x)] := hl
  refine lv_iload_n hx hb dJ6_bitCount_0f7a4_0 rfl (lv_at hl 0 rfl) ?_
  refine lv_iload_n hx hb dJ6_bitCount_0f7a4_1 rfl (lv_at hl 0 rfl) ?_
  refine lv_iconst (v := 1) hx hb dJ6_bitCount_0f7a4_2 (by decide) ?_
  refine lv_iushr hx hb dJ6_bitCount_0f7a4_3 rfl ?_
  refine lv_ldcw (v := 1431655765) hx hb hown (hts (.constant RJ6 265 (1431655765)) (List.mem_cons_of_mem _ (List.mem_of_getElem? (i := 0) rfl))) dJ6_bitCount_0f7a4_4 ?_
  refine lv_iand hx hb dJ6_bitCount_0f7a4_7 ?_
  refine lv_isub hx hb dJ6_bitCount_0f7a4_8 ?_
  refine lv_topi (fun x1 ex1 => ?_)
  have ix1 : x1.toInt = (x - (((x.toUInt32 >>> ((1 : Int32).toUInt32 &&& Int32.toUInt32 31)).toInt32) &&& 1431655765)).toInt := by rw [ex1]
  refine lv_istore_n (lv' := [(0, .int x1)]) hx hb dJ6_bitCount_0f7a4_9 rfl hl (by decide) rfl (fun ls hl => ?_)
  refine lv_iload_n hx hb dJ6_bitCount_0f7a4_10 rfl (lv_at hl 0 rfl) ?_
  refine lv_ldcw (v := 858993459) hx hb hown (hts (.constant RJ6 266 (858993459)) (List.mem_cons_of_mem _ (List.mem_of_getElem? (i := 1) rfl))) dJ6_bitCount_0f7a4_11 ?_
  refine lv_iand hx hb dJ6_bitCount_0f7a4_14 ?_
  refine lv_iload_n hx hb dJ6_bitCount_0f7a4_15 rfl (lv_at hl 0 rfl) ?_
  refine lv_iconst (v := 2) hx hb dJ6_bitCount_0f7a4_16 (by decide) ?_
  refine lv_iushr hx hb dJ6_bitCount_0f7a4_17 rfl ?_
  refine lv_ldcw (v := 858993459) hx hb hown (hts (.constant RJ6 266 (858993459)) (List.mem_cons_of_mem _ (List.mem_of_getElem? (i := 1) rfl))) dJ6_bitCount_0f7a4_18 ?_
  refine lv_iand hx hb dJ6_bitCount_0f7a4_21 ?_
  refine lv_iadd hx hb dJ6_bitCount_0f7a4_22 ?_
  refine lv_topi (fun x2 ex2 => ?_)
  have ix2 : x2.toInt = ((x1 &&& 858993459) + (((x1.toUInt32 >>> ((2 : Int32).toUInt32 &&& Int32.toUInt32 31)).toInt32) &&& 858993459)).toInt := by rw [ex2]
  refine lv_istore_n (lv' := [(0, .int x2)]) hx hb dJ6_bitCount_0f7a4_23 rfl hl (by decide) rfl (fun ls hl => ?_)
  refine lv_iload_n hx hb dJ6_bitCount_0f7a4_24 rfl (lv_at hl 0 rfl) ?_
  refine lv_iload_n hx hb dJ6_bitCount_0f7a4_25 rfl (lv_at hl 0 rfl) ?_
  refine lv_iconst (v := 4) hx hb dJ6_bitCount_0f7a4_26 (by decide) ?_
  refine lv_iushr hx hb dJ6_bitCount_0f7a4_27 rfl ?_
  refine lv_iadd hx hb dJ6_bitCount_0f7a4_28 ?_
  refine lv_ldcw (v := 252645135) hx hb hown (hts (.constant RJ6 267 (252645135)) (List.mem_cons_of_mem _ (List.mem_of_getElem? (i := 2) rfl))) dJ6_bitCount_0f7a4_29 ?_
  refine lv_iand hx hb dJ6_bitCount_0f7a4_32 ?_
  refine lv_topi (fun x3 ex3 => ?_)
  have ix3 : x3.toInt = ((x2 + ((x2.toUInt32 >>> ((4 : Int32).toUInt32 &&& Int32.toUInt32 31)).toInt32)) &&& 252645135).toInt := by rw [ex3]
  refine lv_istore_n (lv' := [(0, .int x3)]) hx hb dJ6_bitCount_0f7a4_33 rfl hl (by decide) rfl (fun ls hl => ?_)
  refine lv_iload_n hx hb dJ6_bitCount_0f7a4_34 rfl (lv_at hl 0 rfl) ?_
  refine lv_iload_n hx hb dJ6_bitCount_0f7a4_35 rfl (lv_at hl 0 rfl) ?_
  refine lv_bipush (v := 8) hx hb dJ6_bitCount_0f7a4_36 (by decide) ?_
  refine lv_iushr hx hb dJ6_bitCount_0f7a4_38 rfl ?_
  refine lv_iadd hx hb dJ6_bitCount_0f7a4_39 ?_
  refine lv_topi (fun x4 ex4 => ?_)
  have ix4 : x4.toInt = (x3 + ((x3.toUInt32 >>> ((8 : Int32).toUInt32 &&& Int32.toUInt32 31)).toInt32)).toInt := by rw [ex4]
  refine lv_istore_n (lv' := [(0, .int x4)]) hx hb dJ6_bitCount_0f7a4_40 rfl hl (by decide) rfl (fun ls hl => ?_)
  refine lv_iload_n hx hb dJ6_bitCount_0f7a4_41 rfl (lv_at hl 0 rfl) ?_
  refine lv_iload_n hx hb dJ6_bitCount_0f7a4_42 rfl (lv_at hl 0 rfl) ?_
  refine lv_bipush (v := 16) hx hb dJ6_bitCount_0f7a4_43 (by decide) ?_
  refine lv_iushr hx hb dJ6_bitCount_0f7a4_45 rfl ?_
  refine lv_iadd hx hb dJ6_bitCount_0f7a4_46 ?_
  refine lv_topi (fun x5 ex5 => ?_)
  have ix5 : x5.toInt = (x4 + ((x4.toUInt32 >>> ((16 : Int32).toUInt32 &&& Int32.toUInt32 31)).toInt32)).toInt := by rw [ex5]
  refine lv_istore_n (lv' := [(0, .int x5)]) hx hb dJ6_bitCount_0f7a4_47 rfl hl (by decide) rfl (fun ls hl => ?_)
  refine lv_iload_n hx hb dJ6_bitCount_0f7a4_48 rfl (lv_at hl 0 rfl) ?_
  refine lv_bipush (v := 63) hx hb dJ6_bitCount_0f7a4_49 (by decide) ?_
  refine lv_iand hx hb dJ6_bitCount_0f7a4_51 ?_
  exact W.iret (v := x5 &&& 63) hx hb hr (fun t ht hW => ⟨x5 &&& 63, rfl, (show (x5 &&& 63) = bc x from by (subst_vars; rfl)), ht⟩) (fun q h => by cases h) dJ6_bitCount_0f7a4_52
set_option maxHeartbeats 4000000 in
set_option maxRecDepth 100000 in
theorem k_J7_fill_53178 (l : Launch) (dC : Nat → ClassId) (dI : Nat → Nat → Nat) (cI cZ cQ : ClassId) (ar0 : Nat) (ln : Nat) (fv : Nat → Int32) (sz : Nat) (v : Int32) (q0 : ln ≤ 2048) : KV l yJ7_fill_53178 wsJ7_fill_53178 { frames := 0, cells := 0, slots := 0, locals := 0 } (dC, dI) (TY cI cZ cQ) (wArr cI cZ cQ ar0 ln fv) [.ref ar0, .int v] sz 0 0 (fun (u : US) => (∀ j, j < ln → (u.1 0) j = v)) (fun u : US => (wArr cI cZ cQ ar0 ln (u.1 0))) := by
  refine Met.ofW (cc := cJ7_fill_53178) (maxL := 4) (ret := none) (by decide) rfl ?_
  intro p e s m args below meth c s₁ B hml hv
  obtain ⟨rfl, hsz, hP, hK, hD0, hN⟩ := hv
  have hx := B.exec
  have hb := B.bytes
  have hr := B.returns
  have hts := atoms_spec (ws := wsJ7_fill_53178) B.pre
  have hown : s.vm.findClass RJ7 = some m.cls := findClass_of_methodNamed B.named
  have hlocks := B.notSynchronized
  subst hsz
  have hD := hD0.self (sz := s.heap.size)
  generalize hAe : va_A (wArr cI cZ cQ ar0 ln fv) s.heap.size = A at hD ⊢
  have hA : ∀ q : Nat, s.heap.size ≤ q → A q := fun q h => by rw [← hAe]; exact Or.inr h
  have hS : va_S A s.heap s.heap [] := va_S.rf
  have hl := lv_entry ([.ref ar0, .int v]) (n := 4) (Nat.le_of_ble_eq_true rfl)
  rw [lg_entry_eq]
  generalize (lg_sl ([.ref ar0, .int v]) ++ List.replicate (4 - (lg_sl ([.ref ar0, .int v])).length) Slot.unset).toArray = ls at hl ⊢
  have hl : lv_has ls 4 [(0, .ref ar0), (1, .int v)] := hl
  refine lv_iconst (v := 0) hx hb dJ7_fill_53178_0 (by decide) ?_
  refine lv_istore_n (lv' := [(2, .int 0), (0, .ref ar0), (1, .int v)]) hx hb dJ7_fill_53178_1 rfl hl (by decide) rfl (fun ls hl => ?_)
  refine lv_aload_n hx hb dJ7_fill_53178_2 rfl (lv_at hl 1 rfl) ?_
  refine va_alen (v := nI ln) hx hb hK hP 0 0 rfl rfl rfl dJ7_fill_53178_3 ?_
  refine lv_topi (fun x1 ex1 => ?_)
  have ix1 : x1.toInt = (ln : Int) := by rw [ex1]; exact (nI_toInt (by omega))
  refine lv_istore_n (lv' := [(3, .int x1), (2, .int 0), (0, .ref ar0), (1, .int v)]) hx hb dJ7_fill_53178_4 rfl hl (by decide) rfl (fun ls hl => ?_)
  have L5 : ∀ (nn : Nat) (y5_2 : Int32) (fv_5 : Nat → Int32) (H : Heap) (locs : List Loc) (ls : Array Slot), (0 ≤ (y5_2.toInt)) → ((y5_2.toInt) ≤ 2048) → (∀ j : Nat, (j : Int) < (y5_2.toInt) → fv_5 j = v) → (2048 - (y5_2.toInt)).toNat < nn → va_P (dC, dI) vwCl (wArr cI cZ cQ ar0 ln fv_5) H → va_D A (wArr cI cZ cQ ar0 ln fv_5) → va_S A s.heap H locs → lv_has ls 4 [(0, .ref ar0), (1, .int v), (2, .int y5_2), (3, .int x1)] → W p l e (headSpec wsJ7_fill_53178 { frames := 0, cells := 0, slots := 0, locals := 0 }).room s m ([.ref ar0, .int v] : List Value).toArray below meth c H locs 0 0 (MQ below (va_Qv (fun (u : US) => (∀ j, j < ln → (u.1 0) j = v)) (Bw (dC, dI) A (fun u : US => (wArr cI cZ cQ ar0 ln (u.1 0)))) A) ([.ref ar0, .int v] : List Value).toArray s 0 0 A) (F0 m 5 ls []) := by
    intro nn
    induction nn with
    | zero =>
      intro y5_2 fv_5 H locs ls i5_0 i5_1 i5_2 hm
      exact absurd hm (Nat.not_lt_zero _)
    | succ nn ih5 =>
      intro y5_2 fv_5 H locs ls i5_0 i5_1 i5_2 hm hP hD hS hl
      refine lv_iload_n hx hb dJ7_fill_53178_5 rfl (lv_at hl 2 rfl) ?_
      refine lv_iload_n hx hb dJ7_fill_53178_6 rfl (lv_at hl 3 rfl) ?_
      refine lv_icmp_ge (tgt := 20) hx hb dJ7_fill_53178_7 (by decide) (fun c2 => ?_) (fun c2 => ?_)
      · have dc2 : x1.toInt ≤ y5_2.toInt := leC rfl rfl c2
        exact W.vret hx hb hr (fun t ht hW => ⟨⟨(uS [fv_5] 0 (fun _ => 0)), rfl, (show ∀ j, j < ln → fv_5 j = v from by (intro j hj; exact i5_2 j (by omega))), by rw [ht]; exact hP, hD⟩, hS.F ht⟩) hS.2.2 dJ7_fill_53178_20
      · have dc2 : y5_2.toInt < x1.toInt := nleC rfl rfl c2
        refine lv_aload_n hx hb dJ7_fill_53178_10 rfl (lv_at hl 0 rfl) ?_
        refine lv_iload_n hx hb dJ7_fill_53178_11 rfl (lv_at hl 2 rfl) ?_
        refine lv_iload_n hx hb dJ7_fill_53178_12 rfl (lv_at hl 1 rfl) ?_
        have b3 : vp_in y5_2 ln := inC rfl (by omega) (by omega)
        refine va_iast hx hb hK hP hD hS 0 0 rfl rfl b3 dJ7_fill_53178_13 (fun H locs hP hD hS => ?_)
        obtain ⟨fv_u4, efv_u4⟩ : ∃ f : Nat → Int32, f = upd fv_5 y5_2.toNatClampNeg v := ⟨_, rfl⟩
        have hP : va_P (dC, dI) vwCl (wArr cI cZ cQ ar0 ln fv_u4) H := by rw [efv_u4]; exact hP
        have hD : va_D A (wArr cI cZ cQ ar0 ln fv_u4) := by rw [efv_u4]; exact hD
        obtain ⟨z5, ez5⟩ : ∃ y : Int32, y = y5_2 + 1 := ⟨_, rfl⟩
        have iz5 : z5.toInt = y5_2.toInt + 1 := by rw [ez5]; exact addC rfl rfl (by omega) (by omega)
        refine lv_iinc (v := z5) (lv' := [(2, .int z5), (0, .ref ar0), (1, .int v), (3, .int x1)]) hx hb dJ7_fill_53178_14 hl (k := 2) rfl (by rw [ez5]; rfl) (by decide) rfl (fun ls hl => ?_)
        refine lv_goto (tgt := 5) hx hb dJ7_fill_53178_17 (by decide) ?_
        exact ih5 z5 fv_u4 _ _ _ (by omega) (by omega) (by first | (intro j hj; subst_vars; by_cases e : j = y5_2.toNatClampNeg <;> first | (rw [pk_un e]; exact i5_2 j (by have := clC (x := y5_2) rfl; omega)) | (subst e; exact pk_us)) | (intro j hj; omega)) (by omega) hP hD hS (lv_sub hl [1, 2, 0, 3] rfl)
  have kc6 : (0 : Int32).toInt = 0 := rfl
  exact L5 _ 0 fv _ _ _ (by omega) (by omega) (by first | (intro j hj; omega) | (intro j hj; subst_vars; by_cases e : j = y5_2.toNatClampNeg <;> first | (subst e; exact pk_us) | (rw [pk_un e]; exact i5_2 j (by have := clC (x := y5_2) rfl; omega)))) (Nat.lt_succ_self _) hP hD hS (lv_sub hl [2, 3, 1, 0] rfl)
set_option maxHeartbeats 4000000 in
set_option maxRecDepth 100000 in
theorem k_X9_within (l : Launch) (dC : Nat → ClassId) (dI : Nat → Nat → Nat) (cI cZ cQ : ClassId) (v : Int32) (least : Int32) (most : Int32)  : KR l yX9_within wsX9_within { frames := 0, cells := 0, slots := 0, locals := 0 } (dC, dI) (TY cI cZ cQ) (wNil cI cZ cQ) [.int v, .int least, .int most] (fun r : Int32 => ((((r = 1) ∧ (least.toInt ≤ v.toInt) ∧ (v.toInt ≤ most.toInt)) ∨ ((r = 0) ∧ (v.toInt < least.toInt ∨ most.toInt < v.toInt))))) := by
  refine Met.ofW (cc := cX9_within) (maxL := 3) (ret := (some .boolean)) (by decide) rfl ?_
  intro p e s m args below meth c s₁ B hml hv
  obtain ⟨rfl, hP, hK, hN⟩ := hv
  have hx := B.exec
  have hb := B.bytes
  have hr := B.returns
  have hts := atoms_spec (ws := wsX9_within) B.pre
  have hown : s.vm.findClass RX9 = some m.cls := findClass_of_methodNamed B.named
  have hlocks := B.notSynchronized
  have hl := lv_entry ([.int v, .int least, .int most]) (n := 3) (Nat.le_of_ble_eq_true rfl)
  rw [lg_entry_eq]
  generalize (lg_sl ([.int v, .int least, .int most]) ++ List.replicate (3 - (lg_sl ([.int v, .int least, .int most])).length) Slot.unset).toArray = ls at hl ⊢
  have hl : lv_has ls 3 [(0, .int v), (1, .int least), (2, .int most)] := hl
  refine lv_iload_n hx hb dX9_within_0 rfl (lv_at hl 0 rfl) ?_
  refine lv_iload_n hx hb dX9_within_1 rfl (lv_at hl 1 rfl) ?_
  refine lv_icmp_lt (tgt := 14) hx hb dX9_within_2 (by decide) (fun c1 => ?_) (fun c1 => ?_)
  · have dc1 : v.toInt < least.toInt := ltC rfl rfl c1
    refine lv_iconst (v := 0) hx hb dX9_within_14 (by decide) ?_
    exact W.zret (v := 0) hx hb hr (by decide) (fun t ht hW => ⟨0, rfl, (Or.inr (⟨rfl, (show v.toInt < least.toInt ∨ most.toInt < v.toInt from by (try rw [show (0 : Int32).toInt = 0 from (show (0 : Int32).toInt = 0 from rfl)]); omega)⟩)), ht⟩) (fun q h => by cases h) dX9_within_15
  · have dc1 : least.toInt ≤ v.toInt := nltC rfl rfl c1
    refine lv_iload_n hx hb dX9_within_5 rfl (lv_at hl 0 rfl) ?_
    refine lv_iload_n hx hb dX9_within_6 rfl (lv_at hl 2 rfl) ?_
    refine lv_icmp_gt (tgt := 14) hx hb dX9_within_7 (by decide) (fun c2 => ?_) (fun c2 => ?_)
    · have dc2 : most.toInt < v.toInt := ltC rfl rfl c2
      refine lv_iconst (v := 0) hx hb dX9_within_14 (by decide) ?_
      exact W.zret (v := 0) hx hb hr (by decide) (fun t ht hW => ⟨0, rfl, (Or.inr (⟨rfl, (show v.toInt < least.toInt ∨ most.toInt < v.toInt from by (try rw [show (0 : Int32).toInt = 0 from (show (0 : Int32).toInt = 0 from rfl)]); omega)⟩)), ht⟩) (fun q h => by cases h) dX9_within_15
    · have dc2 : v.toInt ≤ most.toInt := nltC rfl rfl c2
      refine lv_iconst (v := 1) hx hb dX9_within_10 (by decide) ?_
      refine lv_goto (tgt := 15) hx hb dX9_within_11 (by decide) ?_
      exact W.zret (v := 1) hx hb hr (by decide) (fun t ht hW => ⟨1, rfl, (Or.inl (⟨rfl, (show least.toInt ≤ v.toInt from by (try rw [show (1 : Int32).toInt = 1 from (show (1 : Int32).toInt = 1 from rfl)]); omega), (show v.toInt ≤ most.toInt from by (try rw [show (1 : Int32).toInt = 1 from (show (1 : Int32).toInt = 1 from rfl)]); omega)⟩)), ht⟩) (fun q h => by cases h) dX9_within_15
set_option maxHeartbeats 4000000 in
set_option maxRecDepth 100000 in
theorem k_X9_isRoom (l : Launch) (dC : Nat → ClassId) (dI : Nat → Nat → Nat) (cI cZ cQ : ClassId) (v : Int32)  : KR l yX9_isRoom wsX9_isRoom { frames := 1, cells := 0, slots := 0, locals := 22 } (dC, dI) (TY cI cZ cQ) (wNil cI cZ cQ) [.int v] (fun r : Int32 => ((((r = 1) ∧ (0 ≤ v.toInt) ∧ (v.toInt ≤ 7)) ∨ ((r = 0) ∧ (v.toInt < 0 ∨ 7 < v.toInt))))) := by
  refine Met.ofW (cc := cX9_isRoom) (maxL := 1) (ret := (some .boolean)) (by decide) rfl ?_
  intro p e s m args below meth c s₁ B hml hv
  obtain ⟨rfl, hP, hK, hN⟩ := hv
  have hx := B.exec
  have hb := B.bytes
  have hr := B.returns
  have hts := atoms_spec (ws := wsX9_isRoom) B.pre
  have hown : s.vm.findClass RX9 = some m.cls := findClass_of_methodNamed B.named
  have hlocks := B.notSynchronized
  have hl := lv_entry ([.int v]) (n := 1) (Nat.le_of_ble_eq_true rfl)
  rw [lg_entry_eq]
  generalize (lg_sl ([.int v]) ++ List.replicate (1 - (lg_sl ([.int v])).length) Slot.unset).toArray = ls at hl ⊢
  have hl : lv_has ls 1 [(0, .int v)] := hl
  refine lv_iload_n hx hb dX9_isRoom_0 rfl (lv_at hl 0 rfl) ?_
  refine lv_iconst (v := 0) hx hb dX9_isRoom_1 (by decide) ?_
  refine lv_bipush (v := 7) hx hb dX9_isRoom_2 (by decide) ?_
  refine rdS (As := [.int v, .int 0, .int 7]) (rest := []) ⟨hx, hb, hml, hown, hts⟩ (k_X9_within l dC dI cI cZ cQ v (0 : Int32) (7 : Int32)) (va_cwS 3 hts gX9_isRoom_X9_within rfl rfl rfl (by decide +kernel) ⟨Nat.le_of_ble_eq_true rfl, Nat.le_of_ble_eq_true rfl⟩) hP hK hN [] rfl rfl hl.1 rfl (Nat.le_of_ble_eq_true rfl) dX9_isRoom_4 ⟨Nat.le_of_ble_eq_true rfl, Nat.le_of_ble_eq_true rfl⟩ (fun r1 h2 => ?_)
  have h2 : ((((r1 = 1) ∧ ((0) ≤ v.toInt) ∧ (v.toInt ≤ (7))) ∨ ((r1 = 0) ∧ (v.toInt < (0) ∨ (7) < v.toInt)))) := h2
  rcases h2 with (⟨rfl, h2_a0, h2_a1⟩ | ⟨rfl, h2_a0⟩)
  · exact W.zret (v := 1) hx hb hr (by decide) (fun t ht hW => ⟨1, rfl, (Or.inl (⟨rfl, (show 0 ≤ v.toInt from by (try rw [show (1 : Int32).toInt = 1 from (show (1 : Int32).toInt = 1 from rfl)]); omega), (show v.toInt ≤ 7 from by (try rw [show (1 : Int32).toInt = 1 from (show (1 : Int32).toInt = 1 from rfl)]); omega)⟩)), ht⟩) (fun q h => by cases h) dX9_isRoom_7
  · exact W.zret (v := 0) hx hb hr (by decide) (fun t ht hW => ⟨0, rfl, (Or.inr (⟨rfl, (show v.toInt < 0 ∨ 7 < v.toInt from by (try rw [show (0 : Int32).toInt = 0 from (show (0 : Int32).toInt = 0 from rfl)]); omega)⟩)), ht⟩) (fun q h => by cases h) dX9_isRoom_7
set_option maxHeartbeats 4000000 in
set_option maxRecDepth 100000 in
theorem k_X9_isCorner (l : Launch) (dC : Nat → ClassId) (dI : Nat → Nat → Nat) (cI cZ cQ : ClassId) (v : Int32)  : KR l yX9_isCorner wsX9_isCorner { frames := 1, cells := 0, slots := 0, locals := 22 } (dC, dI) (TY cI cZ cQ) (wNil cI cZ cQ) [.int v] (fun r : Int32 => ((((r = 1) ∧ (0 ≤ v.toInt) ∧ (v.toInt ≤ 47)) ∨ ((r = 0) ∧ (v.toInt < 0 ∨ 47 < v.toInt))))) := by
  refine Met.ofW (cc := cX9_isCorner) (maxL := 1) (ret := (some .boolean)) (by decide) rfl ?_
  intro p e s m args below meth c s₁ B hml hv
  obtain ⟨rfl, hP, hK, hN⟩ := hv
  have hx := B.exec
  have hb := B.bytes
  have hr := B.returns
  have hts := atoms_spec (ws := wsX9_isCorner) B.pre
  have hown : s.vm.findClass RX9 = some m.cls := findClass_of_methodNamed B.named
  have hlocks := B.notSynchronized
  have hl := lv_entry ([.int v]) (n := 1) (Nat.le_of_ble_eq_true rfl)
  rw [lg_entry_eq]
  generalize (lg_sl ([.int v]) ++ List.replicate (1 - (lg_sl ([.int v])).length) Slot.unset).toArray = ls at hl ⊢
  have hl : lv_has ls 1 [(0, .int v)] := hl
  refine lv_iload_n hx hb dX9_isCorner_0 rfl (lv_at hl 0 rfl) ?_
  refine lv_iconst (v := 0) hx hb dX9_isCorner_1 (by decide) ?_
  refine lv_bipush (v := 47) hx hb dX9_isCorner_2 (by decide) ?_
  refine rdS (As := [.int v, .int 0, .int 47]) (rest := []) ⟨hx, hb, hml, hown, hts⟩ (k_X9_within l dC dI cI cZ cQ v (0 : Int32) (47 : Int32)) (va_cwS 3 hts gX9_isCorner_X9_within rfl rfl rfl (by decide +kernel) ⟨Nat.le_of_ble_eq_true rfl, Nat.le_of_ble_eq_true rfl⟩) hP hK hN [] rfl rfl hl.1 rfl (Nat.le_of_ble_eq_true rfl) dX9_isCorner_4 ⟨Nat.le_of_ble_eq_true rfl, Nat.le_of_ble_eq_true rfl⟩ (fun r1 h2 => ?_)
  have h2 : ((((r1 = 1) ∧ ((0) ≤ v.toInt) ∧ (v.toInt ≤ (47))) ∨ ((r1 = 0) ∧ (v.toInt < (0) ∨ (47) < v.toInt)))) := h2
  rcases h2 with (⟨rfl, h2_a0, h2_a1⟩ | ⟨rfl, h2_a0⟩)
  · exact W.zret (v := 1) hx hb hr (by decide) (fun t ht hW => ⟨1, rfl, (Or.inl (⟨rfl, (show 0 ≤ v.toInt from by (try rw [show (1 : Int32).toInt = 1 from (show (1 : Int32).toInt = 1 from rfl)]); omega), (show v.toInt ≤ 47 from by (try rw [show (1 : Int32).toInt = 1 from (show (1 : Int32).toInt = 1 from rfl)]); omega)⟩)), ht⟩) (fun q h => by cases h) dX9_isCorner_7
  · exact W.zret (v := 0) hx hb hr (by decide) (fun t ht hW => ⟨0, rfl, (Or.inr (⟨rfl, (show v.toInt < 0 ∨ 47 < v.toInt from by (try rw [show (0 : Int32).toInt = 0 from (show (0 : Int32).toInt = 0 from rfl)]); omega)⟩)), ht⟩) (fun q h => by cases h) dX9_isCorner_7
set_option maxHeartbeats 4000000 in
set_option maxRecDepth 100000 in
theorem k_X9_isThing (l : Launch) (dC : Nat → ClassId) (dI : Nat → Nat → Nat) (cI cZ cQ : ClassId) (v : Int32)  : KR l yX9_isThing wsX9_isThing { frames := 1, cells := 0, slots := 0, locals := 22 } (dC, dI) (TY cI cZ cQ) (wNil cI cZ cQ) [.int v] (fun r : Int32 => ((((r = 1) ∧ (0 ≤ v.toInt) ∧ (v.toInt ≤ 23)) ∨ ((r = 0) ∧ (v.toInt < 0 ∨ 23 < v.toInt))))) := by
  refine Met.ofW (cc := cX9_isThing) (maxL := 1) (ret := (some .boolean)) (by decide) rfl ?_
  intro p e s m args below meth c s₁ B hml hv
  obtain ⟨rfl, hP, hK, hN⟩ := hv
  have hx := B.exec
  have hb := B.bytes
  have hr := B.returns
  have hts := atoms_spec (ws := wsX9_isThing) B.pre
  have hown : s.vm.findClass RX9 = some m.cls := findClass_of_methodNamed B.named
  have hlocks := B.notSynchronized
  have hl := lv_entry ([.int v]) (n := 1) (Nat.le_of_ble_eq_true rfl)
  rw [lg_entry_eq]
  generalize (lg_sl ([.int v]) ++ List.replicate (1 - (lg_sl ([.int v])).length) Slot.unset).toArray = ls at hl ⊢
  have hl : lv_has ls 1 [(0, .int v)] := hl
  refine lv_iload_n hx hb dX9_isThing_0 rfl (lv_at hl 0 rfl) ?_
  refine lv_iconst (v := 0) hx hb dX9_isThing_1 (by decide) ?_
  refine lv_bipush (v := 23) hx hb dX9_isThing_2 (by decide) ?_
  refine rdS (As := [.int v, .int 0, .int 23]) (rest := []) ⟨hx, hb, hml, hown, hts⟩ (k_X9_within l dC dI cI cZ cQ v (0 : Int32) (23 : Int32)) (va_cwS 3 hts gX9_isThing_X9_within rfl rfl rfl (by decide +kernel) ⟨Nat.le_of_ble_eq_true rfl, Nat.le_of_ble_eq_true rfl⟩) hP hK hN [] rfl rfl hl.1 rfl (Nat.le_of_ble_eq_true rfl) dX9_isThing_4 ⟨Nat.le_of_ble_eq_true rfl, Nat.le_of_ble_eq_true rfl⟩ (fun r1 h2 => ?_)
  have h2 : ((((r1 = 1) ∧ ((0) ≤ v.toInt) ∧ (v.toInt ≤ (23))) ∨ ((r1 = 0) ∧ (v.toInt < (0) ∨ (23) < v.toInt)))) := h2
  rcases h2 with (⟨rfl, h2_a0, h2_a1⟩ | ⟨rfl, h2_a0⟩)
  · exact W.zret (v := 1) hx hb hr (by decide) (fun t ht hW => ⟨1, rfl, (Or.inl (⟨rfl, (show 0 ≤ v.toInt from by (try rw [show (1 : Int32).toInt = 1 from (show (1 : Int32).toInt = 1 from rfl)]); omega), (show v.toInt ≤ 23 from by (try rw [show (1 : Int32).toInt = 1 from (show (1 : Int32).toInt = 1 from rfl)]); omega)⟩)), ht⟩) (fun q h => by cases h) dX9_isThing_7
  · exact W.zret (v := 0) hx hb hr (by decide) (fun t ht hW => ⟨0, rfl, (Or.inr (⟨rfl, (show v.toInt < 0 ∨ 23 < v.toInt from by (try rw [show (0 : Int32).toInt = 0 from (show (0 : Int32).toInt = 0 from rfl)]); omega)⟩)), ht⟩) (fun q h => by cases h) dX9_isThing_7
set_option maxHeartbeats 4000000 in
set_option maxRecDepth 100000 in
theorem k_X9_isFigure (l : Launch) (dC : Nat → ClassId) (dI : Nat → Nat → Nat) (cI cZ cQ : ClassId) (v : Int32)  : KR l yX9_isFigure wsX9_isFigure { frames := 1, cells := 0, slots := 0, locals := 22 } (dC, dI) (TY cI cZ cQ) (wNil cI cZ cQ) [.int v] (fun r : Int32 => ((((r = 1) ∧ (0 ≤ v.toInt) ∧ (v.toInt ≤ 9)) ∨ ((r = 0) ∧ (v.toInt < 0 ∨ 9 < v.toInt))))) := by
  refine Met.ofW (cc := cX9_isFigure) (maxL := 1) (ret := (some .boolean)) (by decide) rfl ?_
  intro p e s m args below meth c s₁ B hml hv
  obtain ⟨rfl, hP, hK, hN⟩ := hv
  have hx := B.exec
  have hb := B.bytes
  have hr := B.returns
  have hts := atoms_spec (ws := wsX9_isFigure) B.pre
  have hown : s.vm.findClass RX9 = some m.cls := findClass_of_methodNamed B.named
  have hlocks := B.notSynchronized
  have hl := lv_entry ([.int v]) (n := 1) (Nat.le_of_ble_eq_true rfl)
  rw [lg_entry_eq]
  generalize (lg_sl ([.int v]) ++ List.replicate (1 - (lg_sl ([.int v])).length) Slot.unset).toArray = ls at hl ⊢
  have hl : lv_has ls 1 [(0, .int v)] := hl
  refine lv_iload_n hx hb dX9_isFigure_0 rfl (lv_at hl 0 rfl) ?_
  refine lv_iconst (v := 0) hx hb dX9_isFigure_1 (by decide) ?_
  refine lv_bipush (v := 9) hx hb dX9_isFigure_2 (by decide) ?_
  refine rdS (As := [.int v, .int 0, .int 9]) (rest := []) ⟨hx, hb, hml, hown, hts⟩ (k_X9_within l dC dI cI cZ cQ v (0 : Int32) (9 : Int32)) (va_cwS 3 hts gX9_isFigure_X9_within rfl rfl rfl (by decide +kernel) ⟨Nat.le_of_ble_eq_true rfl, Nat.le_of_ble_eq_true rfl⟩) hP hK hN [] rfl rfl hl.1 rfl (Nat.le_of_ble_eq_true rfl) dX9_isFigure_4 ⟨Nat.le_of_ble_eq_true rfl, Nat.le_of_ble_eq_true rfl⟩ (fun r1 h2 => ?_)
  have h2 : ((((r1 = 1) ∧ ((0) ≤ v.toInt) ∧ (v.toInt ≤ (9))) ∨ ((r1 = 0) ∧ (v.toInt < (0) ∨ (9) < v.toInt)))) := h2
  rcases h2 with (⟨rfl, h2_a0, h2_a1⟩ | ⟨rfl, h2_a0⟩)
  · exact W.zret (v := 1) hx hb hr (by decide) (fun t ht hW => ⟨1, rfl, (Or.inl (⟨rfl, (show 0 ≤ v.toInt from by (try rw [show (1 : Int32).toInt = 1 from (show (1 : Int32).toInt = 1 from rfl)]); omega), (show v.toInt ≤ 9 from by (try rw [show (1 : Int32).toInt = 1 from (show (1 : Int32).toInt = 1 from rfl)]); omega)⟩)), ht⟩) (fun q h => by cases h) dX9_isFigure_7
  · exact W.zret (v := 0) hx hb hr (by decide) (fun t ht hW => ⟨0, rfl, (Or.inr (⟨rfl, (show v.toInt < 0 ∨ 9 < v.toInt from by (try rw [show (0 : Int32).toInt = 0 from (show (0 : Int32).toInt = 0 from rfl)]); omega)⟩)), ht⟩) (fun q h => by cases h) dX9_isFigure_7
set_option maxHeartbeats 4000000 in
set_option maxRecDepth 100000 in
theorem k_X2_shared (l : Launch) (dC : Nat → ClassId) (dI : Nat → Nat → Nat) (cI cZ cQ : ClassId) (a : Nat → Nat) (mar : Nat → Int32) (one : Int32) (two : Int32) (r_mar : rg 24 (0) (255) mar) (q0 : 0 ≤ one.toInt) (q1 : one.toInt ≤ 23) (q2 : 0 ≤ two.toInt) (q3 : two.toInt ≤ 23) : KR l yX2_shared wsX2_shared { frames := 1, cells := 0, slots := 0, locals := 20 } (dC, dI) (TY cI cZ cQ) (wPic cI cZ cQ a mar) [.ref (a 2), .int one, .int two] (fun r : Int32 => (r = bc (mar one.toNatClampNeg &&& mar two.toNatClampNeg))) := by
  refine Met.ofW (cc := cX2_shared) (maxL := 3) (ret := (some .int)) (by decide) rfl ?_
  intro p e s m args below meth c s₁ B hml hv
  obtain ⟨rfl, hP, hK, hN⟩ := hv
  have hx := B.exec
  have hb := B.bytes
  have hr := B.returns
  have hts := atoms_spec (ws := wsX2_shared) B.pre
  have hown : s.vm.findClass RX2 = some m.cls := findClass_of_methodNamed B.named
  have hlocks := B.notSynchronized
  have lf9 := hts (.fieldLink RX2 9 "PalaceOfRooms$Pictures" "marksOf" "[I") (List.mem_cons_of_mem _ (List.mem_append_left _ (List.mem_of_getElem? (i := 0) rfl)))
  have inX2 : ∀ w ∈ wsX20, w ∈ wsX2_shared := fun w h => List.mem_cons_of_mem _ (List.mem_append_right _ h)
  have hl := lv_entry ([.ref (a 2), .int one, .int two]) (n := 3) (Nat.le_of_ble_eq_true rfl)
  rw [lg_entry_eq]
  generalize (lg_sl ([.ref (a 2), .int one, .int two]) ++ List.replicate (3 - (lg_sl ([.ref (a 2), .int one, .int two])).length) Slot.unset).toArray = ls at hl ⊢
  have hl : lv_has ls 3 [(0, .ref (a 2)), (1, .int one), (2, .int two)] := hl
  refine lv_aload_n hx hb dX2_shared_0 rfl (lv_at hl 0 rfl) ?_
  refine va_get (D := (dC, dI)) (ci := 2) (v := .ref (a 3)) (C := RX2) (T := TX2) (N := 1) hx hb hts inX2 hown hK hP 0 rfl rfl 0 (by decide) lf9 (fun _ h9 => h9) rfl dX2_shared_1 ?_
  refine lv_iload_n hx hb dX2_shared_4 rfl (lv_at hl 1 rfl) ?_
  have b1 : vp_in one 24 := inC rfl (by omega) (by omega)
  refine va_iald hx hb hK hP 1 0 rfl rfl b1 dX2_shared_5 ?_
  have g2 : 0 ≤ (mar one.toNatClampNeg).toInt ∧ (mar one.toNatClampNeg).toInt ≤ 255 := rg_at r_mar b1
  refine lv_aload_n hx hb dX2_shared_6 rfl (lv_at hl 0 rfl) ?_
  refine va_get (D := (dC, dI)) (ci := 2) (v := .ref (a 3)) (C := RX2) (T := TX2) (N := 1) hx hb hts inX2 hown hK hP 0 rfl rfl 0 (by decide) lf9 (fun _ h9 => h9) rfl dX2_shared_7 ?_
  refine lv_iload_n hx hb dX2_shared_10 rfl (lv_at hl 2 rfl) ?_
  have b3 : vp_in two 24 := inC rfl (by omega) (by omega)
  refine va_iald hx hb hK hP 1 0 rfl rfl b3 dX2_shared_11 ?_
  have g4 : 0 ≤ (mar two.toNatClampNeg).toInt ∧ (mar two.toNatClampNeg).toInt ≤ 255 := rg_at r_mar b3
  refine lv_iand hx hb dX2_shared_12 ?_
  refine rdS (As := [.int ((mar one.toNatClampNeg) &&& (mar two.toNatClampNeg))]) (rest := []) ⟨hx, hb, hml, hown, hts⟩ (k_J6_bitCount_0f7a4 l dC dI cI cZ cQ ((mar one.toNatClampNeg) &&& (mar two.toNatClampNeg))) (va_cwS 1 hts gX2_shared_J6_bitCount_0f7a4 rfl rfl rfl (by decide +kernel) ⟨Nat.le_of_ble_eq_true rfl, Nat.le_of_ble_eq_true rfl⟩) hP hK hN [] rfl rfl hl.1 rfl (Nat.le_of_ble_eq_true rfl) dX2_shared_13 ⟨Nat.le_of_ble_eq_true rfl, Nat.le_of_ble_eq_true rfl⟩ (fun r5 h6 => ?_)
  have h6 : (r5 = bc ((mar one.toNatClampNeg) &&& (mar two.toNatClampNeg))) := h6
  have h6_0 := h6
  exact W.iret (v := r5) hx hb hr (fun t ht hW => ⟨r5, rfl, (show r5 = bc (mar one.toNatClampNeg &&& mar two.toNatClampNeg) from by assumption), ht⟩) (fun q h => by cases h) dX2_shared_16
