section
set_option maxRecDepth 20000 in
theorem dqJ6_bitCount_0f7a4_p040 : dz_rn 0 (cJ6_bitCount_0f7a4.data.toList.drop 0) [(0, 0), (0, 0), (0, 9), (0, 45)] = some [(0, .iload_n 0, 1), (1, .iload_n 0, 1), (2, .iconst 1, 1), (3, .iushr, 1)] := by decide +kernel
theorem dJ6_bitCount_0f7a4_0 : decode cJ6_bitCount_0f7a4 0 = .ok (.iload_n 0, 1) := dz_at dqJ6_bitCount_0f7a4_p040 0 rfl
theorem dJ6_bitCount_0f7a4_1 : decode cJ6_bitCount_0f7a4 1 = .ok (.iload_n 0, 1) := dz_at dqJ6_bitCount_0f7a4_p040 1 rfl
theorem dJ6_bitCount_0f7a4_2 : decode cJ6_bitCount_0f7a4 2 = .ok (.iconst 1, 1) := dz_at dqJ6_bitCount_0f7a4_p040 2 rfl
theorem dJ6_bitCount_0f7a4_3 : decode cJ6_bitCount_0f7a4 3 = .ok (.iushr, 1) := dz_at dqJ6_bitCount_0f7a4_p040 3 rfl
theorem dJ6_bitCount_0f7a4_4 : decode cJ6_bitCount_0f7a4 4 = .ok (.ldc_w 265, 3) := by decide +kernel
set_option maxRecDepth 20000 in
theorem dqJ6_bitCount_0f7a4_p041 : dz_rn 7 (cJ6_bitCount_0f7a4.data.toList.drop 7) [(0, 29), (0, 26), (0, 18), (0, 0)] = some [(7, .iand, 1), (8, .isub, 1), (9, .istore_n 0, 1), (10, .iload_n 0, 1)] := by decide +kernel
theorem dJ6_bitCount_0f7a4_7 : decode cJ6_bitCount_0f7a4 7 = .ok (.iand, 1) := dz_at dqJ6_bitCount_0f7a4_p041 0 rfl
theorem dJ6_bitCount_0f7a4_8 : decode cJ6_bitCount_0f7a4 8 = .ok (.isub, 1) := dz_at dqJ6_bitCount_0f7a4_p041 1 rfl
theorem dJ6_bitCount_0f7a4_9 : decode cJ6_bitCount_0f7a4 9 = .ok (.istore_n 0, 1) := dz_at dqJ6_bitCount_0f7a4_p041 2 rfl
theorem dJ6_bitCount_0f7a4_10 : decode cJ6_bitCount_0f7a4 10 = .ok (.iload_n 0, 1) := dz_at dqJ6_bitCount_0f7a4_p041 3 rfl
theorem dJ6_bitCount_0f7a4_11 : decode cJ6_bitCount_0f7a4 11 = .ok (.ldc_w 266, 3) := by decide +kernel
set_option maxRecDepth 20000 in
theorem dqJ6_bitCount_0f7a4_p042 : dz_rn 14 (cJ6_bitCount_0f7a4.data.toList.drop 14) [(0, 29), (0, 0), (0, 14), (0, 45)] = some [(14, .iand, 1), (15, .iload_n 0, 1), (16, .iconst 2, 1), (17, .iushr, 1)] := by decide +kernel
theorem dJ6_bitCount_0f7a4_14 : decode cJ6_bitCount_0f7a4 14 = .ok (.iand, 1) := dz_at dqJ6_bitCount_0f7a4_p042 0 rfl
theorem dJ6_bitCount_0f7a4_15 : decode cJ6_bitCount_0f7a4 15 = .ok (.iload_n 0, 1) := dz_at dqJ6_bitCount_0f7a4_p042 1 rfl
theorem dJ6_bitCount_0f7a4_16 : decode cJ6_bitCount_0f7a4 16 = .ok (.iconst 2, 1) := dz_at dqJ6_bitCount_0f7a4_p042 2 rfl
theorem dJ6_bitCount_0f7a4_17 : decode cJ6_bitCount_0f7a4 17 = .ok (.iushr, 1) := dz_at dqJ6_bitCount_0f7a4_p042 3 rfl
theorem dJ6_bitCount_0f7a4_18 : decode cJ6_bitCount_0f7a4 18 = .ok (.ldc_w 266, 3) := by decide +kernel
set_option maxRecDepth 20000 in
theorem dqJ6_bitCount_0f7a4_p043 : dz_rn 21 (cJ6_bitCount_0f7a4.data.toList.drop 21) [(0, 29), (0, 11), (0, 18), (0, 0), (0, 0), (0, 16), (0, 45), (0, 11)] = some [(21, .iand, 1), (22, .iadd, 1), (23, .istore_n 0, 1), (24, .iload_n 0, 1), (25, .iload_n 0, 1), (26, .iconst 4, 1), (27, .iushr, 1), (28, .iadd, 1)] := by decide +kernel
theorem dJ6_bitCount_0f7a4_21 : decode cJ6_bitCount_0f7a4 21 = .ok (.iand, 1) := dz_at dqJ6_bitCount_0f7a4_p043 0 rfl
theorem dJ6_bitCount_0f7a4_22 : decode cJ6_bitCount_0f7a4 22 = .ok (.iadd, 1) := dz_at dqJ6_bitCount_0f7a4_p043 1 rfl
theorem dJ6_bitCount_0f7a4_23 : decode cJ6_bitCount_0f7a4 23 = .ok (.istore_n 0, 1) := dz_at dqJ6_bitCount_0f7a4_p043 2 rfl
theorem dJ6_bitCount_0f7a4_24 : decode cJ6_bitCount_0f7a4 24 = .ok (.iload_n 0, 1) := dz_at dqJ6_bitCount_0f7a4_p043 3 rfl
theorem dJ6_bitCount_0f7a4_25 : decode cJ6_bitCount_0f7a4 25 = .ok (.iload_n 0, 1) := dz_at dqJ6_bitCount_0f7a4_p043 4 rfl
theorem dJ6_bitCount_0f7a4_26 : decode cJ6_bitCount_0f7a4 26 = .ok (.iconst 4, 1) := dz_at dqJ6_bitCount_0f7a4_p043 5 rfl
theorem dJ6_bitCount_0f7a4_27 : decode cJ6_bitCount_0f7a4 27 = .ok (.iushr, 1) := dz_at dqJ6_bitCount_0f7a4_p043 6 rfl
theorem dJ6_bitCount_0f7a4_28 : decode cJ6_bitCount_0f7a4 28 = .ok (.iadd, 1) := dz_at dqJ6_bitCount_0f7a4_p043 7 rfl
theorem dJ6_bitCount_0f7a4_29 : decode cJ6_bitCount_0f7a4 29 = .ok (.ldc_w 267, 3) := by decide +kernel
set_option maxRecDepth 20000 in
theorem dqJ6_bitCount_0f7a4_p044 : dz_rn 32 (cJ6_bitCount_0f7a4.data.toList.drop 32) [(0, 29), (0, 18), (0, 0), (0, 0), (2, 0), (0, 45), (0, 11), (0, 18), (0, 0), (0, 0), (2, 0), (0, 45), (0, 11), (0, 18)] = some [(32, .iand, 1), (33, .istore_n 0, 1), (34, .iload_n 0, 1), (35, .iload_n 0, 1), (36, .bipush 8, 2), (38, .iushr, 1), (39, .iadd, 1), (40, .istore_n 0, 1), (41, .iload_n 0, 1), (42, .iload_n 0, 1), (43, .bipush 16, 2), (45, .iushr, 1), (46, .iadd, 1), (47, .istore_n 0, 1)] := by decide +kernel
theorem dJ6_bitCount_0f7a4_32 : decode cJ6_bitCount_0f7a4 32 = .ok (.iand, 1) := dz_at dqJ6_bitCount_0f7a4_p044 0 rfl
theorem dJ6_bitCount_0f7a4_33 : decode cJ6_bitCount_0f7a4 33 = .ok (.istore_n 0, 1) := dz_at dqJ6_bitCount_0f7a4_p044 1 rfl
theorem dJ6_bitCount_0f7a4_34 : decode cJ6_bitCount_0f7a4 34 = .ok (.iload_n 0, 1) := dz_at dqJ6_bitCount_0f7a4_p044 2 rfl
theorem dJ6_bitCount_0f7a4_35 : decode cJ6_bitCount_0f7a4 35 = .ok (.iload_n 0, 1) := dz_at dqJ6_bitCount_0f7a4_p044 3 rfl
theorem dJ6_bitCount_0f7a4_36 : decode cJ6_bitCount_0f7a4 36 = .ok (.bipush 8, 2) := dz_at dqJ6_bitCount_0f7a4_p044 4 rfl
theorem dJ6_bitCount_0f7a4_38 : decode cJ6_bitCount_0f7a4 38 = .ok (.iushr, 1) := dz_at dqJ6_bitCount_0f7a4_p044 5 rfl
theorem dJ6_bitCount_0f7a4_39 : decode cJ6_bitCount_0f7a4 39 = .ok (.iadd, 1) := dz_at dqJ6_bitCount_0f7a4_p044 6 rfl
theorem dJ6_bitCount_0f7a4_40 : decode cJ6_bitCount_0f7a4 40 = .ok (.istore_n 0, 1) := dz_at dqJ6_bitCount_0f7a4_p044 7 rfl
theorem dJ6_bitCount_0f7a4_41 : decode cJ6_bitCount_0f7a4 41 = .ok (.iload_n 0, 1) := dz_at dqJ6_bitCount_0f7a4_p044 8 rfl
theorem dJ6_bitCount_0f7a4_42 : decode cJ6_bitCount_0f7a4 42 = .ok (.iload_n 0, 1) := dz_at dqJ6_bitCount_0f7a4_p044 9 rfl
theorem dJ6_bitCount_0f7a4_43 : decode cJ6_bitCount_0f7a4 43 = .ok (.bipush 16, 2) := dz_at dqJ6_bitCount_0f7a4_p044 10 rfl
theorem dJ6_bitCount_0f7a4_45 : decode cJ6_bitCount_0f7a4 45 = .ok (.iushr, 1) := dz_at dqJ6_bitCount_0f7a4_p044 11 rfl
theorem dJ6_bitCount_0f7a4_46 : decode cJ6_bitCount_0f7a4 46 = .ok (.iadd, 1) := dz_at dqJ6_bitCount_0f7a4_p044 12 rfl
theorem dJ6_bitCount_0f7a4_47 : decode cJ6_bitCount_0f7a4 47 = .ok (.istore_n 0, 1) := dz_at dqJ6_bitCount_0f7a4_p044 13 rfl
set_option maxRecDepth 20000 in
theorem dqJ6_bitCount_0f7a4_p045 : dz_rn 48 (cJ6_bitCount_0f7a4.data.toList.drop 48) [(0, 0), (2, 0), (0, 29), (0, 12)] = some [(48, .iload_n 0, 1), (49, .bipush 63, 2), (51, .iand, 1), (52, .ireturn, 1)] := by decide +kernel
theorem dJ6_bitCount_0f7a4_48 : decode cJ6_bitCount_0f7a4 48 = .ok (.iload_n 0, 1) := dz_at dqJ6_bitCount_0f7a4_p045 0 rfl
theorem dJ6_bitCount_0f7a4_49 : decode cJ6_bitCount_0f7a4 49 = .ok (.bipush 63, 2) := dz_at dqJ6_bitCount_0f7a4_p045 1 rfl
theorem dJ6_bitCount_0f7a4_51 : decode cJ6_bitCount_0f7a4 51 = .ok (.iand, 1) := dz_at dqJ6_bitCount_0f7a4_p045 2 rfl
theorem dJ6_bitCount_0f7a4_52 : decode cJ6_bitCount_0f7a4 52 = .ok (.ireturn, 1) := dz_at dqJ6_bitCount_0f7a4_p045 3 rfl
set_option maxRecDepth 20000 in
theorem ggJ0_length_8abf5_J0_coder_7d493 : GoodIn wsJ0_length_8abf5 wsJ0_coder_7d493 := goodIn_r _ [6, 7, 8] rfl (by decide +kernel)
set_option maxRecDepth 20000 in
theorem gJ0_length_8abf5_J0_coder_7d493 : GoodIn wsJ0_length_8abf5 (wsV RJ0 335 RJ0 yJ0_coder_7d493 wsJ0_coder_7d493) := goodIn_app (goodIn_of _ (by decide +kernel)) ggJ0_length_8abf5_J0_coder_7d493
set_option maxRecDepth 20000 in
theorem dqJ0_length_8abf5_p040 : dz_rn 0 (cJ0_length_8abf5.data.toList.drop 0) [(0, 4), (3, 0), (0, 44), (0, 4), (3, 1), (0, 32), (0, 12)] = some [(0, .aload_n 0, 1), (1, .getfield 9, 3), (4, .arraylength, 1), (5, .aload_n 0, 1), (6, .invokevirtual 335, 3), (9, .ishr, 1), (10, .ireturn, 1)] := by decide +kernel
theorem dJ0_length_8abf5_0 : decode cJ0_length_8abf5 0 = .ok (.aload_n 0, 1) := dz_at dqJ0_length_8abf5_p040 0 rfl
theorem dJ0_length_8abf5_1 : decode cJ0_length_8abf5 1 = .ok (.getfield 9, 3) := dz_at dqJ0_length_8abf5_p040 1 rfl
theorem dJ0_length_8abf5_4 : decode cJ0_length_8abf5 4 = .ok (.arraylength, 1) := dz_at dqJ0_length_8abf5_p040 2 rfl
theorem dJ0_length_8abf5_5 : decode cJ0_length_8abf5 5 = .ok (.aload_n 0, 1) := dz_at dqJ0_length_8abf5_p040 3 rfl
theorem dJ0_length_8abf5_6 : decode cJ0_length_8abf5 6 = .ok (.invokevirtual 335, 3) := dz_at dqJ0_length_8abf5_p040 4 rfl
theorem dJ0_length_8abf5_9 : decode cJ0_length_8abf5 9 = .ok (.ishr, 1) := dz_at dqJ0_length_8abf5_p040 5 rfl
theorem dJ0_length_8abf5_10 : decode cJ0_length_8abf5 10 = .ok (.ireturn, 1) := dz_at dqJ0_length_8abf5_p040 6 rfl
set_option maxRecDepth 20000 in
theorem ggJ0_charAt_5068e_J0_isLatin1_aae02 : GoodIn wsJ0_charAt_5068e wsJ0_isLatin1_aae02 := goodIn_r _ [6, 7, 8] rfl (by decide +kernel)
set_option maxRecDepth 20000 in
theorem gJ0_charAt_5068e_J0_isLatin1_aae02 : GoodIn wsJ0_charAt_5068e (wsV RJ0 492 RJ0 yJ0_isLatin1_aae02 wsJ0_isLatin1_aae02) := goodIn_app (goodIn_of _ (by decide +kernel)) ggJ0_charAt_5068e_J0_isLatin1_aae02
set_option maxRecDepth 20000 in
theorem ggJ0_charAt_5068e_J1_charAt_3b067 : GoodIn wsJ0_charAt_5068e wsJ1_charAt_3b067 := goodIn_r _ [12, 13, 14, 5, 15, 16, 17, 18, 19, 20] rfl (by decide +kernel)
set_option maxRecDepth 20000 in
theorem gJ0_charAt_5068e_J1_charAt_3b067 : GoodIn wsJ0_charAt_5068e (va_wsS RJ0 495 yJ1_charAt_3b067 wsJ1_charAt_3b067) := goodIn_app (goodIn_of _ (by decide +kernel)) ggJ0_charAt_5068e_J1_charAt_3b067
set_option maxRecDepth 20000 in
theorem dqJ0_charAt_5068e_p040 : dz_rn 0 (cJ0_charAt_5068e.data.toList.drop 0) [(0, 4), (3, 1), (4, 7), (0, 4), (3, 0), (0, 1), (3, 2), (0, 12)] = some [(0, .aload_n 0, 1), (1, .invokevirtual 492, 3), (4, .ifCond .eq 12, 3), (7, .aload_n 0, 1), (8, .getfield 9, 3), (11, .iload_n 1, 1), (12, .invokestatic 495, 3), (15, .ireturn, 1)] := by decide +kernel
theorem dJ0_charAt_5068e_0 : decode cJ0_charAt_5068e 0 = .ok (.aload_n 0, 1) := dz_at dqJ0_charAt_5068e_p040 0 rfl
theorem dJ0_charAt_5068e_1 : decode cJ0_charAt_5068e 1 = .ok (.invokevirtual 492, 3) := dz_at dqJ0_charAt_5068e_p040 1 rfl
theorem dJ0_charAt_5068e_4 : decode cJ0_charAt_5068e 4 = .ok (.ifCond .eq 12, 3) := dz_at dqJ0_charAt_5068e_p040 2 rfl
theorem dJ0_charAt_5068e_7 : decode cJ0_charAt_5068e 7 = .ok (.aload_n 0, 1) := dz_at dqJ0_charAt_5068e_p040 3 rfl
theorem dJ0_charAt_5068e_8 : decode cJ0_charAt_5068e 8 = .ok (.getfield 9, 3) := dz_at dqJ0_charAt_5068e_p040 4 rfl
theorem dJ0_charAt_5068e_11 : decode cJ0_charAt_5068e 11 = .ok (.iload_n 1, 1) := dz_at dqJ0_charAt_5068e_p040 5 rfl
theorem dJ0_charAt_5068e_12 : decode cJ0_charAt_5068e 12 = .ok (.invokestatic 495, 3) := dz_at dqJ0_charAt_5068e_p040 6 rfl
theorem dJ0_charAt_5068e_15 : decode cJ0_charAt_5068e 15 = .ok (.ireturn, 1) := dz_at dqJ0_charAt_5068e_p040 7 rfl
theorem dJ0_coder_7d493_0 : decode cJ0_coder_7d493 0 = .ok (.getstatic 38, 3) := by decide +kernel
set_option maxRecDepth 20000 in
theorem dqJ0_coder_7d493_p040 : dz_rn 3 (cJ0_coder_7d493.data.toList.drop 3) [(4, 7), (0, 4), (3, 0), (4, 0)] = some [(3, .ifCond .eq 10, 3), (6, .aload_n 0, 1), (7, .getfield 15, 3), (10, .goto 4, 3)] := by decide +kernel
theorem dJ0_coder_7d493_3 : decode cJ0_coder_7d493 3 = .ok (.ifCond .eq 10, 3) := dz_at dqJ0_coder_7d493_p040 0 rfl
theorem dJ0_coder_7d493_6 : decode cJ0_coder_7d493 6 = .ok (.aload_n 0, 1) := dz_at dqJ0_coder_7d493_p040 1 rfl
theorem dJ0_coder_7d493_7 : decode cJ0_coder_7d493 7 = .ok (.getfield 15, 3) := dz_at dqJ0_coder_7d493_p040 2 rfl
theorem dJ0_coder_7d493_10 : decode cJ0_coder_7d493 10 = .ok (.goto 4, 3) := dz_at dqJ0_coder_7d493_p040 3 rfl
theorem dJ0_coder_7d493_14 : decode cJ0_coder_7d493 14 = .ok (.ireturn, 1) := by decide +kernel
theorem dJ0_isLatin1_aae02_0 : decode cJ0_isLatin1_aae02 0 = .ok (.getstatic 38, 3) := by decide +kernel
set_option maxRecDepth 20000 in
theorem dqJ0_isLatin1_aae02_p040 : dz_rn 3 (cJ0_isLatin1_aae02.data.toList.drop 3) [(4, 7), (0, 4), (3, 0), (4, 8), (0, 9), (4, 0)] = some [(3, .ifCond .eq 14, 3), (6, .aload_n 0, 1), (7, .getfield 15, 3), (10, .ifCond .ne 7, 3), (13, .iconst 1, 1), (14, .goto 4, 3)] := by decide +kernel
theorem dJ0_isLatin1_aae02_3 : decode cJ0_isLatin1_aae02 3 = .ok (.ifCond .eq 14, 3) := dz_at dqJ0_isLatin1_aae02_p040 0 rfl
theorem dJ0_isLatin1_aae02_6 : decode cJ0_isLatin1_aae02 6 = .ok (.aload_n 0, 1) := dz_at dqJ0_isLatin1_aae02_p040 1 rfl
theorem dJ0_isLatin1_aae02_7 : decode cJ0_isLatin1_aae02 7 = .ok (.getfield 15, 3) := dz_at dqJ0_isLatin1_aae02_p040 2 rfl
theorem dJ0_isLatin1_aae02_10 : decode cJ0_isLatin1_aae02 10 = .ok (.ifCond .ne 7, 3) := dz_at dqJ0_isLatin1_aae02_p040 3 rfl
theorem dJ0_isLatin1_aae02_13 : decode cJ0_isLatin1_aae02 13 = .ok (.iconst 1, 1) := dz_at dqJ0_isLatin1_aae02_p040 4 rfl
theorem dJ0_isLatin1_aae02_14 : decode cJ0_isLatin1_aae02 14 = .ok (.goto 4, 3) := dz_at dqJ0_isLatin1_aae02_p040 5 rfl
theorem dJ0_isLatin1_aae02_18 : decode cJ0_isLatin1_aae02 18 = .ok (.ireturn, 1) := by decide +kernel
set_option maxRecDepth 20000 in
theorem ggJ0_checkIndex_df160_J3_checkIndex_8e157 : GoodIn wsJ0_checkIndex_df160 wsJ3_checkIndex_8e157 := goodIn_r _ [5] rfl (by decide +kernel)
set_option maxRecDepth 20000 in
theorem gJ0_checkIndex_df160_J3_checkIndex_8e157 : GoodIn wsJ0_checkIndex_df160 (va_wsS RJ0 1059 yJ3_checkIndex_8e157 wsJ3_checkIndex_8e157) := goodIn_app (goodIn_of _ (by decide +kernel)) ggJ0_checkIndex_df160_J3_checkIndex_8e157
set_option maxRecDepth 20000 in
theorem dqJ0_checkIndex_df160_p040 : dz_rn 0 (cJ0_checkIndex_df160.data.toList.drop 0) [(0, 0), (0, 1)] = some [(0, .iload_n 0, 1), (1, .iload_n 1, 1)] := by decide +kernel
theorem dJ0_checkIndex_df160_0 : decode cJ0_checkIndex_df160 0 = .ok (.iload_n 0, 1) := dz_at dqJ0_checkIndex_df160_p040 0 rfl
theorem dJ0_checkIndex_df160_1 : decode cJ0_checkIndex_df160 1 = .ok (.iload_n 1, 1) := dz_at dqJ0_checkIndex_df160_p040 1 rfl
theorem dJ0_checkIndex_df160_2 : decode cJ0_checkIndex_df160 2 = .ok (.getstatic 1053, 3) := by decide +kernel
set_option maxRecDepth 20000 in
theorem dqJ0_checkIndex_df160_p041 : dz_rn 5 (cJ0_checkIndex_df160.data.toList.drop 5) [(3, 2), (0, 24), (0, 25)] = some [(5, .invokestatic 1059, 3), (8, .pop, 1), (9, .return_, 1)] := by decide +kernel
theorem dJ0_checkIndex_df160_5 : decode cJ0_checkIndex_df160 5 = .ok (.invokestatic 1059, 3) := dz_at dqJ0_checkIndex_df160_p041 0 rfl
theorem dJ0_checkIndex_df160_8 : decode cJ0_checkIndex_df160 8 = .ok (.pop, 1) := dz_at dqJ0_checkIndex_df160_p041 1 rfl
theorem dJ0_checkIndex_df160_9 : decode cJ0_checkIndex_df160 9 = .ok (.return_, 1) := dz_at dqJ0_checkIndex_df160_p041 2 rfl
set_option maxRecDepth 20000 in
theorem ggJ1_charAt_3b067_J0_checkIndex_df160 : GoodIn wsJ1_charAt_3b067 wsJ0_checkIndex_df160 := goodIn_r _ [4, 5, 6, 7, 8, 9] rfl (by decide +kernel)
set_option maxRecDepth 20000 in
theorem gJ1_charAt_3b067_J0_checkIndex_df160 : GoodIn wsJ1_charAt_3b067 (va_wsS RJ1 9 yJ0_checkIndex_df160 wsJ0_checkIndex_df160) := goodIn_app (goodIn_of _ (by decide +kernel)) ggJ1_charAt_3b067_J0_checkIndex_df160
set_option maxRecDepth 20000 in
theorem dqJ1_charAt_3b067_p040 : dz_rn 0 (cJ1_charAt_3b067.data.toList.drop 0) [(0, 1), (0, 4), (0, 44), (3, 2), (0, 4), (0, 1)] = some [(0, .iload_n 1, 1), (1, .aload_n 0, 1), (2, .arraylength, 1), (3, .invokestatic 9, 3), (6, .aload_n 0, 1), (7, .iload_n 1, 1)] := by decide +kernel
theorem dJ1_charAt_3b067_0 : decode cJ1_charAt_3b067 0 = .ok (.iload_n 1, 1) := dz_at dqJ1_charAt_3b067_p040 0 rfl
theorem dJ1_charAt_3b067_1 : decode cJ1_charAt_3b067 1 = .ok (.aload_n 0, 1) := dz_at dqJ1_charAt_3b067_p040 1 rfl
theorem dJ1_charAt_3b067_2 : decode cJ1_charAt_3b067 2 = .ok (.arraylength, 1) := dz_at dqJ1_charAt_3b067_p040 2 rfl
theorem dJ1_charAt_3b067_3 : decode cJ1_charAt_3b067 3 = .ok (.invokestatic 9, 3) := dz_at dqJ1_charAt_3b067_p040 3 rfl
theorem dJ1_charAt_3b067_6 : decode cJ1_charAt_3b067 6 = .ok (.aload_n 0, 1) := dz_at dqJ1_charAt_3b067_p040 4 rfl
theorem dJ1_charAt_3b067_7 : decode cJ1_charAt_3b067 7 = .ok (.iload_n 1, 1) := dz_at dqJ1_charAt_3b067_p040 5 rfl
theorem dJ1_charAt_3b067_8 : decode cJ1_charAt_3b067 8 = .ok (.baload, 1) := by decide +kernel
set_option maxRecDepth 20000 in
theorem dqJ1_charAt_3b067_p041 : dz_rn 9 (cJ1_charAt_3b067.data.toList.drop 9) [(4, 13), (0, 29)] = some [(9, .sipush 255, 3), (12, .iand, 1)] := by decide +kernel
theorem dJ1_charAt_3b067_9 : decode cJ1_charAt_3b067 9 = .ok (.sipush 255, 3) := dz_at dqJ1_charAt_3b067_p041 0 rfl
theorem dJ1_charAt_3b067_12 : decode cJ1_charAt_3b067 12 = .ok (.iand, 1) := dz_at dqJ1_charAt_3b067_p041 1 rfl
theorem dJ1_charAt_3b067_13 : decode cJ1_charAt_3b067 13 = .ok (.i2c, 1) := by decide +kernel
theorem dJ1_charAt_3b067_14 : decode cJ1_charAt_3b067 14 = .ok (.ireturn, 1) := by decide +kernel
set_option maxRecDepth 20000 in
theorem dqJ7_fill_53178_p040 : dz_rn 0 (cJ7_fill_53178.data.toList.drop 0) [(0, 8), (0, 20), (0, 4), (0, 44), (0, 21), (0, 2), (0, 3), (4, 4), (0, 4), (0, 2), (0, 1), (0, 22), (5, 0), (4, 0)] = some [(0, .iconst 0, 1), (1, .istore_n 2, 1), (2, .aload_n 0, 1), (3, .arraylength, 1), (4, .istore_n 3, 1), (5, .iload_n 2, 1), (6, .iload_n 3, 1), (7, .if_icmp .ge 13, 3), (10, .aload_n 0, 1), (11, .iload_n 2, 1), (12, .iload_n 1, 1), (13, .iastore, 1), (14, .iinc 2 1, 3), (17, .goto (-12), 3)] := by decide +kernel
theorem dJ7_fill_53178_0 : decode cJ7_fill_53178 0 = .ok (.iconst 0, 1) := dz_at dqJ7_fill_53178_p040 0 rfl
theorem dJ7_fill_53178_1 : decode cJ7_fill_53178 1 = .ok (.istore_n 2, 1) := dz_at dqJ7_fill_53178_p040 1 rfl
theorem dJ7_fill_53178_2 : decode cJ7_fill_53178 2 = .ok (.aload_n 0, 1) := dz_at dqJ7_fill_53178_p040 2 rfl
theorem dJ7_fill_53178_3 : decode cJ7_fill_53178 3 = .ok (.arraylength, 1) := dz_at dqJ7_fill_53178_p040 3 rfl
theorem dJ7_fill_53178_4 : decode cJ7_fill_53178 4 = .ok (.istore_n 3, 1) := dz_at dqJ7_fill_53178_p040 4 rfl
theorem dJ7_fill_53178_5 : decode cJ7_fill_53178 5 = .ok (.iload_n 2, 1) := dz_at dqJ7_fill_53178_p040 5 rfl
theorem dJ7_fill_53178_6 : decode cJ7_fill_53178 6 = .ok (.iload_n 3, 1) := dz_at dqJ7_fill_53178_p040 6 rfl
theorem dJ7_fill_53178_7 : decode cJ7_fill_53178 7 = .ok (.if_icmp .ge 13, 3) := dz_at dqJ7_fill_53178_p040 7 rfl
theorem dJ7_fill_53178_10 : decode cJ7_fill_53178 10 = .ok (.aload_n 0, 1) := dz_at dqJ7_fill_53178_p040 8 rfl
theorem dJ7_fill_53178_11 : decode cJ7_fill_53178 11 = .ok (.iload_n 2, 1) := dz_at dqJ7_fill_53178_p040 9 rfl
theorem dJ7_fill_53178_12 : decode cJ7_fill_53178 12 = .ok (.iload_n 1, 1) := dz_at dqJ7_fill_53178_p040 10 rfl
theorem dJ7_fill_53178_13 : decode cJ7_fill_53178 13 = .ok (.iastore, 1) := dz_at dqJ7_fill_53178_p040 11 rfl
theorem dJ7_fill_53178_14 : decode cJ7_fill_53178 14 = .ok (.iinc 2 1, 3) := dz_at dqJ7_fill_53178_p040 12 rfl
theorem dJ7_fill_53178_17 : decode cJ7_fill_53178 17 = .ok (.goto (-12), 3) := dz_at dqJ7_fill_53178_p040 13 rfl
theorem dJ7_fill_53178_20 : decode cJ7_fill_53178 20 = .ok (.return_, 1) := by decide +kernel
set_option maxRecDepth 20000 in
theorem dqJ3_checkIndex_8e157_p040 : dz_rn 0 (cJ3_checkIndex_8e157.data.toList.drop 0) [(0, 0), (4, 9), (0, 0), (0, 1), (4, 3)] = some [(0, .iload_n 0, 1), (1, .ifCond .lt 8, 3), (4, .iload_n 0, 1), (5, .iload_n 1, 1), (6, .if_icmp .lt 10, 3)] := by decide +kernel
theorem dJ3_checkIndex_8e157_0 : decode cJ3_checkIndex_8e157 0 = .ok (.iload_n 0, 1) := dz_at dqJ3_checkIndex_8e157_p040 0 rfl
theorem dJ3_checkIndex_8e157_1 : decode cJ3_checkIndex_8e157 1 = .ok (.ifCond .lt 8, 3) := dz_at dqJ3_checkIndex_8e157_p040 1 rfl
theorem dJ3_checkIndex_8e157_4 : decode cJ3_checkIndex_8e157 4 = .ok (.iload_n 0, 1) := dz_at dqJ3_checkIndex_8e157_p040 2 rfl
theorem dJ3_checkIndex_8e157_5 : decode cJ3_checkIndex_8e157 5 = .ok (.iload_n 1, 1) := dz_at dqJ3_checkIndex_8e157_p040 3 rfl
theorem dJ3_checkIndex_8e157_6 : decode cJ3_checkIndex_8e157 6 = .ok (.if_icmp .lt 10, 3) := dz_at dqJ3_checkIndex_8e157_p040 4 rfl
set_option maxRecDepth 20000 in
theorem dqJ3_checkIndex_8e157_p041 : dz_rn 16 (cJ3_checkIndex_8e157.data.toList.drop 16) [(0, 0), (0, 12)] = some [(16, .iload_n 0, 1), (17, .ireturn, 1)] := by decide +kernel
theorem dJ3_checkIndex_8e157_16 : decode cJ3_checkIndex_8e157 16 = .ok (.iload_n 0, 1) := dz_at dqJ3_checkIndex_8e157_p041 0 rfl
theorem dJ3_checkIndex_8e157_17 : decode cJ3_checkIndex_8e157 17 = .ok (.ireturn, 1) := dz_at dqJ3_checkIndex_8e157_p041 1 rfl
set_option maxRecDepth 20000 in
theorem dqX9_within_p040 : dz_rn 0 (cX9_within.data.toList.drop 0) [(0, 0), (0, 1), (4, 3), (0, 0), (0, 2), (4, 5), (0, 9), (4, 0), (0, 8), (0, 12)] = some [(0, .iload_n 0, 1), (1, .iload_n 1, 1), (2, .if_icmp .lt 12, 3), (5, .iload_n 0, 1), (6, .iload_n 2, 1), (7, .if_icmp .gt 7, 3), (10, .iconst 1, 1), (11, .goto 4, 3), (14, .iconst 0, 1), (15, .ireturn, 1)] := by decide +kernel
theorem dX9_within_0 : decode cX9_within 0 = .ok (.iload_n 0, 1) := dz_at dqX9_within_p040 0 rfl
theorem dX9_within_1 : decode cX9_within 1 = .ok (.iload_n 1, 1) := dz_at dqX9_within_p040 1 rfl
theorem dX9_within_2 : decode cX9_within 2 = .ok (.if_icmp .lt 12, 3) := dz_at dqX9_within_p040 2 rfl
theorem dX9_within_5 : decode cX9_within 5 = .ok (.iload_n 0, 1) := dz_at dqX9_within_p040 3 rfl
theorem dX9_within_6 : decode cX9_within 6 = .ok (.iload_n 2, 1) := dz_at dqX9_within_p040 4 rfl
theorem dX9_within_7 : decode cX9_within 7 = .ok (.if_icmp .gt 7, 3) := dz_at dqX9_within_p040 5 rfl
theorem dX9_within_10 : decode cX9_within 10 = .ok (.iconst 1, 1) := dz_at dqX9_within_p040 6 rfl
theorem dX9_within_11 : decode cX9_within 11 = .ok (.goto 4, 3) := dz_at dqX9_within_p040 7 rfl
theorem dX9_within_14 : decode cX9_within 14 = .ok (.iconst 0, 1) := dz_at dqX9_within_p040 8 rfl
theorem dX9_within_15 : decode cX9_within 15 = .ok (.ireturn, 1) := dz_at dqX9_within_p040 9 rfl
set_option maxRecDepth 20000 in
theorem ggX9_isRoom_X9_within : GoodIn wsX9_isRoom wsX9_within := goodIn_r _ [4] rfl (by decide +kernel)
set_option maxRecDepth 20000 in
theorem gX9_isRoom_X9_within : GoodIn wsX9_isRoom (va_wsS RX9 106 yX9_within wsX9_within) := goodIn_app (goodIn_of _ (by decide +kernel)) ggX9_isRoom_X9_within
set_option maxRecDepth 20000 in
theorem dqX9_isRoom_p040 : dz_rn 0 (cX9_isRoom.data.toList.drop 0) [(0, 0), (0, 8), (2, 0), (3, 2), (0, 12)] = some [(0, .iload_n 0, 1), (1, .iconst 0, 1), (2, .bipush 7, 2), (4, .invokestatic 106, 3), (7, .ireturn, 1)] := by decide +kernel
theorem dX9_isRoom_0 : decode cX9_isRoom 0 = .ok (.iload_n 0, 1) := dz_at dqX9_isRoom_p040 0 rfl
theorem dX9_isRoom_1 : decode cX9_isRoom 1 = .ok (.iconst 0, 1) := dz_at dqX9_isRoom_p040 1 rfl
theorem dX9_isRoom_2 : decode cX9_isRoom 2 = .ok (.bipush 7, 2) := dz_at dqX9_isRoom_p040 2 rfl
theorem dX9_isRoom_4 : decode cX9_isRoom 4 = .ok (.invokestatic 106, 3) := dz_at dqX9_isRoom_p040 3 rfl
theorem dX9_isRoom_7 : decode cX9_isRoom 7 = .ok (.ireturn, 1) := dz_at dqX9_isRoom_p040 4 rfl
set_option maxRecDepth 20000 in
theorem ggX9_isCorner_X9_within : GoodIn wsX9_isCorner wsX9_within := goodIn_r _ [4] rfl (by decide +kernel)
set_option maxRecDepth 20000 in
theorem gX9_isCorner_X9_within : GoodIn wsX9_isCorner (va_wsS RX9 106 yX9_within wsX9_within) := goodIn_app (goodIn_of _ (by decide +kernel)) ggX9_isCorner_X9_within
set_option maxRecDepth 20000 in
theorem dqX9_isCorner_p040 : dz_rn 0 (cX9_isCorner.data.toList.drop 0) [(0, 0), (0, 8), (2, 0), (3, 2), (0, 12)] = some [(0, .iload_n 0, 1), (1, .iconst 0, 1), (2, .bipush 47, 2), (4, .invokestatic 106, 3), (7, .ireturn, 1)] := by decide +kernel
theorem dX9_isCorner_0 : decode cX9_isCorner 0 = .ok (.iload_n 0, 1) := dz_at dqX9_isCorner_p040 0 rfl
theorem dX9_isCorner_1 : decode cX9_isCorner 1 = .ok (.iconst 0, 1) := dz_at dqX9_isCorner_p040 1 rfl
theorem dX9_isCorner_2 : decode cX9_isCorner 2 = .ok (.bipush 47, 2) := dz_at dqX9_isCorner_p040 2 rfl
theorem dX9_isCorner_4 : decode cX9_isCorner 4 = .ok (.invokestatic 106, 3) := dz_at dqX9_isCorner_p040 3 rfl
theorem dX9_isCorner_7 : decode cX9_isCorner 7 = .ok (.ireturn, 1) := dz_at dqX9_isCorner_p040 4 rfl
set_option maxRecDepth 20000 in
theorem ggX9_isThing_X9_within : GoodIn wsX9_isThing wsX9_within := goodIn_r _ [4] rfl (by decide +kernel)
set_option maxRecDepth 20000 in
theorem gX9_isThing_X9_within : GoodIn wsX9_isThing (va_wsS RX9 106 yX9_within wsX9_within) := goodIn_app (goodIn_of _ (by decide +kernel)) ggX9_isThing_X9_within
set_option maxRecDepth 20000 in
theorem dqX9_isThing_p040 : dz_rn 0 (cX9_isThing.data.toList.drop 0) [(0, 0), (0, 8), (2, 0), (3, 2), (0, 12)] = some [(0, .iload_n 0, 1), (1, .iconst 0, 1), (2, .bipush 23, 2), (4, .invokestatic 106, 3), (7, .ireturn, 1)] := by decide +kernel
theorem dX9_isThing_0 : decode cX9_isThing 0 = .ok (.iload_n 0, 1) := dz_at dqX9_isThing_p040 0 rfl
theorem dX9_isThing_1 : decode cX9_isThing 1 = .ok (.iconst 0, 1) := dz_at dqX9_isThing_p040 1 rfl
theorem dX9_isThing_2 : decode cX9_isThing 2 = .ok (.bipush 23, 2) := dz_at dqX9_isThing_p040 2 rfl
theorem dX9_isThing_4 : decode cX9_isThing 4 = .ok (.invokestatic 106, 3) := dz_at dqX9_isThing_p040 3 rfl
theorem dX9_isThing_7 : decode cX9_isThing 7 = .ok (.ireturn, 1) := dz_at dqX9_isThing_p040 4 rfl
set_option maxRecDepth 20000 in
theorem ggX9_isFigure_X9_within : GoodIn wsX9_isFigure wsX9_within := goodIn_r _ [4] rfl (by decide +kernel)
set_option maxRecDepth 20000 in
theorem gX9_isFigure_X9_within : GoodIn wsX9_isFigure (va_wsS RX9 106 yX9_within wsX9_within) := goodIn_app (goodIn_of _ (by decide +kernel)) ggX9_isFigure_X9_within
set_option maxRecDepth 20000 in
theorem dqX9_isFigure_p040 : dz_rn 0 (cX9_isFigure.data.toList.drop 0) [(0, 0), (0, 8), (2, 0), (3, 2), (0, 12)] = some [(0, .iload_n 0, 1), (1, .iconst 0, 1), (2, .bipush 9, 2), (4, .invokestatic 106, 3), (7, .ireturn, 1)] := by decide +kernel
theorem dX9_isFigure_0 : decode cX9_isFigure 0 = .ok (.iload_n 0, 1) := dz_at dqX9_isFigure_p040 0 rfl
theorem dX9_isFigure_1 : decode cX9_isFigure 1 = .ok (.iconst 0, 1) := dz_at dqX9_isFigure_p040 1 rfl
theorem dX9_isFigure_2 : decode cX9_isFigure 2 = .ok (.bipush 9, 2) := dz_at dqX9_isFigure_p040 2 rfl
theorem dX9_isFigure_4 : decode cX9_isFigure 4 = .ok (.invokestatic 106, 3) := dz_at dqX9_isFigure_p040 3 rfl
theorem dX9_isFigure_7 : decode cX9_isFigure 7 = .ok (.ireturn, 1) := dz_at dqX9_isFigure_p040 4 rfl
set_option maxRecDepth 20000 in
theorem dqX2_init_p040 : dz_rn 0 (cX2_init.data.toList.drop 0) [(0, 4), (3, 5), (0, 4), (2, 0)] = some [(0, .aload_n 0, 1), (1, .invokespecial 3, 3), (4, .aload_n 0, 1), (5, .bipush 24, 2)] := by decide +kernel
theorem dX2_init_0 : decode cX2_init 0 = .ok (.aload_n 0, 1) := dz_at dqX2_init_p040 0 rfl
theorem dX2_init_1 : decode cX2_init 1 = .ok (.invokespecial 3, 3) := dz_at dqX2_init_p040 1 rfl
theorem dX2_init_4 : decode cX2_init 4 = .ok (.aload_n 0, 1) := dz_at dqX2_init_p040 2 rfl
theorem dX2_init_5 : decode cX2_init 5 = .ok (.bipush 24, 2) := dz_at dqX2_init_p040 3 rfl
theorem dX2_init_7 : decode cX2_init 7 = .ok (.newarray .int, 2) := by decide +kernel
set_option maxRecDepth 20000 in
theorem dqX2_init_p041 : dz_rn 9 (cX2_init.data.toList.drop 9) [(3, 3), (0, 25)] = some [(9, .putfield 9, 3), (12, .return_, 1)] := by decide +kernel
theorem dX2_init_9 : decode cX2_init 9 = .ok (.putfield 9, 3) := dz_at dqX2_init_p041 0 rfl
theorem dX2_init_12 : decode cX2_init 12 = .ok (.return_, 1) := dz_at dqX2_init_p041 1 rfl
set_option maxRecDepth 20000 in
theorem ggX2_shared_J6_bitCount_0f7a4 : GoodIn wsX2_shared wsJ6_bitCount_0f7a4 := goodIn_r _ [5, 6, 7, 8] rfl (by decide +kernel)
set_option maxRecDepth 20000 in
theorem gX2_shared_J6_bitCount_0f7a4 : GoodIn wsX2_shared (va_wsS RX2 15 yJ6_bitCount_0f7a4 wsJ6_bitCount_0f7a4) := goodIn_app (goodIn_of _ (by decide +kernel)) ggX2_shared_J6_bitCount_0f7a4
set_option maxRecDepth 20000 in
theorem dqX2_shared_p040 : dz_rn 0 (cX2_shared.data.toList.drop 0) [(0, 4), (3, 0), (0, 1), (0, 10), (0, 4), (3, 0), (0, 2), (0, 10), (0, 29), (3, 2), (0, 12)] = some [(0, .aload_n 0, 1), (1, .getfield 9, 3), (4, .iload_n 1, 1), (5, .iaload, 1), (6, .aload_n 0, 1), (7, .getfield 9, 3), (10, .iload_n 2, 1), (11, .iaload, 1), (12, .iand, 1), (13, .invokestatic 15, 3), (16, .ireturn, 1)] := by decide +kernel
theorem dX2_shared_0 : decode cX2_shared 0 = .ok (.aload_n 0, 1) := dz_at dqX2_shared_p040 0 rfl
theorem dX2_shared_1 : decode cX2_shared 1 = .ok (.getfield 9, 3) := dz_at dqX2_shared_p040 1 rfl
theorem dX2_shared_4 : decode cX2_shared 4 = .ok (.iload_n 1, 1) := dz_at dqX2_shared_p040 2 rfl
theorem dX2_shared_5 : decode cX2_shared 5 = .ok (.iaload, 1) := dz_at dqX2_shared_p040 3 rfl
theorem dX2_shared_6 : decode cX2_shared 6 = .ok (.aload_n 0, 1) := dz_at dqX2_shared_p040 4 rfl
theorem dX2_shared_7 : decode cX2_shared 7 = .ok (.getfield 9, 3) := dz_at dqX2_shared_p040 5 rfl
theorem dX2_shared_10 : decode cX2_shared 10 = .ok (.iload_n 2, 1) := dz_at dqX2_shared_p040 6 rfl
theorem dX2_shared_11 : decode cX2_shared 11 = .ok (.iaload, 1) := dz_at dqX2_shared_p040 7 rfl
theorem dX2_shared_12 : decode cX2_shared 12 = .ok (.iand, 1) := dz_at dqX2_shared_p040 8 rfl
theorem dX2_shared_13 : decode cX2_shared 13 = .ok (.invokestatic 15, 3) := dz_at dqX2_shared_p040 9 rfl
theorem dX2_shared_16 : decode cX2_shared 16 = .ok (.ireturn, 1) := dz_at dqX2_shared_p040 10 rfl
set_option maxRecDepth 20000 in
theorem ggX8_init_J7_fill_53178 : GoodIn wsX8_init wsJ7_fill_53178 := goodIn_r _ [9] rfl (by decide +kernel)
set_option maxRecDepth 20000 in
theorem gX8_init_J7_fill_53178 : GoodIn wsX8_init (va_wsS RX8 15 yJ7_fill_53178 wsJ7_fill_53178) := goodIn_app (goodIn_of _ (by decide +kernel)) ggX8_init_J7_fill_53178
set_option maxRecDepth 20000 in
theorem dqX8_init_p040 : dz_rn 0 (cX8_init.data.toList.drop 0) [(0, 4), (3, 5), (0, 4), (2, 0)] = some [(0, .aload_n 0, 1), (1, .invokespecial 3, 3), (4, .aload_n 0, 1), (5, .bipush 64, 2)] := by decide +kernel
theorem dX8_init_0 : decode cX8_init 0 = .ok (.aload_n 0, 1) := dz_at dqX8_init_p040 0 rfl
theorem dX8_init_1 : decode cX8_init 1 = .ok (.invokespecial 3, 3) := dz_at dqX8_init_p040 1 rfl
theorem dX8_init_4 : decode cX8_init 4 = .ok (.aload_n 0, 1) := dz_at dqX8_init_p040 2 rfl
theorem dX8_init_5 : decode cX8_init 5 = .ok (.bipush 64, 2) := dz_at dqX8_init_p040 3 rfl
theorem dX8_init_7 : decode cX8_init 7 = .ok (.newarray .int, 2) := by decide +kernel
set_option maxRecDepth 20000 in
theorem dqX8_init_p041 : dz_rn 9 (cX8_init.data.toList.drop 9) [(3, 3), (0, 4), (3, 0), (0, 13), (3, 2), (0, 8), (0, 19), (0, 1), (2, 0), (4, 4), (0, 4), (3, 0), (0, 1), (2, 0)] = some [(9, .putfield 9, 3), (12, .aload_n 0, 1), (13, .getfield 9, 3), (16, .iconst (-1), 1), (17, .invokestatic 15, 3), (20, .iconst 0, 1), (21, .istore_n 1, 1), (22, .iload_n 1, 1), (23, .bipush 8, 2), (25, .if_icmp .ge 21, 3), (28, .aload_n 0, 1), (29, .getfield 9, 3), (32, .iload_n 1, 1), (33, .bipush 8, 2)] := by decide +kernel
theorem dX8_init_9 : decode cX8_init 9 = .ok (.putfield 9, 3) := dz_at dqX8_init_p041 0 rfl
theorem dX8_init_12 : decode cX8_init 12 = .ok (.aload_n 0, 1) := dz_at dqX8_init_p041 1 rfl
theorem dX8_init_13 : decode cX8_init 13 = .ok (.getfield 9, 3) := dz_at dqX8_init_p041 2 rfl
theorem dX8_init_16 : decode cX8_init 16 = .ok (.iconst (-1), 1) := dz_at dqX8_init_p041 3 rfl
theorem dX8_init_17 : decode cX8_init 17 = .ok (.invokestatic 15, 3) := dz_at dqX8_init_p041 4 rfl
theorem dX8_init_20 : decode cX8_init 20 = .ok (.iconst 0, 1) := dz_at dqX8_init_p041 5 rfl
theorem dX8_init_21 : decode cX8_init 21 = .ok (.istore_n 1, 1) := dz_at dqX8_init_p041 6 rfl
theorem dX8_init_22 : decode cX8_init 22 = .ok (.iload_n 1, 1) := dz_at dqX8_init_p041 7 rfl
theorem dX8_init_23 : decode cX8_init 23 = .ok (.bipush 8, 2) := dz_at dqX8_init_p041 8 rfl
theorem dX8_init_25 : decode cX8_init 25 = .ok (.if_icmp .ge 21, 3) := dz_at dqX8_init_p041 9 rfl
theorem dX8_init_28 : decode cX8_init 28 = .ok (.aload_n 0, 1) := dz_at dqX8_init_p041 10 rfl
theorem dX8_init_29 : decode cX8_init 29 = .ok (.getfield 9, 3) := dz_at dqX8_init_p041 11 rfl
theorem dX8_init_32 : decode cX8_init 32 = .ok (.iload_n 1, 1) := dz_at dqX8_init_p041 12 rfl
theorem dX8_init_33 : decode cX8_init 33 = .ok (.bipush 8, 2) := dz_at dqX8_init_p041 13 rfl
set_option maxRecDepth 20000 in
theorem dqX8_init_p042 : dz_rn 35 (cX8_init.data.toList.drop 35) [(0, 23), (0, 1), (0, 11), (0, 8), (0, 22), (5, 0), (4, 0), (0, 25)] = some [(35, .imul, 1), (36, .iload_n 1, 1), (37, .iadd, 1), (38, .iconst 0, 1), (39, .iastore, 1), (40, .iinc 1 1, 3), (43, .goto (-21), 3), (46, .return_, 1)] := by decide +kernel
theorem dX8_init_35 : decode cX8_init 35 = .ok (.imul, 1) := dz_at dqX8_init_p042 0 rfl
theorem dX8_init_36 : decode cX8_init 36 = .ok (.iload_n 1, 1) := dz_at dqX8_init_p042 1 rfl
theorem dX8_init_37 : decode cX8_init 37 = .ok (.iadd, 1) := dz_at dqX8_init_p042 2 rfl
theorem dX8_init_38 : decode cX8_init 38 = .ok (.iconst 0, 1) := dz_at dqX8_init_p042 3 rfl
theorem dX8_init_39 : decode cX8_init 39 = .ok (.iastore, 1) := dz_at dqX8_init_p042 4 rfl
theorem dX8_init_40 : decode cX8_init 40 = .ok (.iinc 1 1, 3) := dz_at dqX8_init_p042 5 rfl
theorem dX8_init_43 : decode cX8_init 43 = .ok (.goto (-21), 3) := dz_at dqX8_init_p042 6 rfl
theorem dX8_init_46 : decode cX8_init 46 = .ok (.return_, 1) := dz_at dqX8_init_p042 7 rfl
set_option maxRecDepth 20000 in
theorem dqX8_between_p040 : dz_rn 0 (cX8_between.data.toList.drop 0) [(0, 4), (3, 0), (0, 1), (2, 0), (0, 23), (0, 2), (0, 11), (0, 10), (0, 12)] = some [(0, .aload_n 0, 1), (1, .getfield 9, 3), (4, .iload_n 1, 1), (5, .bipush 8, 2), (7, .imul, 1), (8, .iload_n 2, 1), (9, .iadd, 1), (10, .iaload, 1), (11, .ireturn, 1)] := by decide +kernel
theorem dX8_between_0 : decode cX8_between 0 = .ok (.aload_n 0, 1) := dz_at dqX8_between_p040 0 rfl
theorem dX8_between_1 : decode cX8_between 1 = .ok (.getfield 9, 3) := dz_at dqX8_between_p040 1 rfl
theorem dX8_between_4 : decode cX8_between 4 = .ok (.iload_n 1, 1) := dz_at dqX8_between_p040 2 rfl
theorem dX8_between_5 : decode cX8_between 5 = .ok (.bipush 8, 2) := dz_at dqX8_between_p040 3 rfl
theorem dX8_between_7 : decode cX8_between 7 = .ok (.imul, 1) := dz_at dqX8_between_p040 4 rfl
theorem dX8_between_8 : decode cX8_between 8 = .ok (.iload_n 2, 1) := dz_at dqX8_between_p040 5 rfl
theorem dX8_between_9 : decode cX8_between 9 = .ok (.iadd, 1) := dz_at dqX8_between_p040 6 rfl
theorem dX8_between_10 : decode cX8_between 10 = .ok (.iaload, 1) := dz_at dqX8_between_p040 7 rfl
theorem dX8_between_11 : decode cX8_between 11 = .ok (.ireturn, 1) := dz_at dqX8_between_p040 8 rfl
set_option maxRecDepth 20000 in
theorem ggX8_joined_X8_between : GoodIn wsX8_joined wsX8_between := goodIn_r _ [5, 6, 7, 8] rfl (by decide +kernel)
set_option maxRecDepth 20000 in
theorem gX8_joined_X8_between : GoodIn wsX8_joined (wsV RX8 21 RX8 yX8_between wsX8_between) := goodIn_app (goodIn_of _ (by decide +kernel)) ggX8_joined_X8_between
set_option maxRecDepth 20000 in
theorem dqX8_joined_p040 : dz_rn 0 (cX8_joined.data.toList.drop 0) [(0, 4), (0, 1), (0, 2), (3, 1), (0, 9), (4, 2), (0, 9), (4, 0), (0, 8), (0, 12)] = some [(0, .aload_n 0, 1), (1, .iload_n 1, 1), (2, .iload_n 2, 1), (3, .invokevirtual 21, 3), (6, .iconst 1, 1), (7, .if_icmp .ne 7, 3), (10, .iconst 1, 1), (11, .goto 4, 3), (14, .iconst 0, 1), (15, .ireturn, 1)] := by decide +kernel
theorem dX8_joined_0 : decode cX8_joined 0 = .ok (.aload_n 0, 1) := dz_at dqX8_joined_p040 0 rfl
theorem dX8_joined_1 : decode cX8_joined 1 = .ok (.iload_n 1, 1) := dz_at dqX8_joined_p040 1 rfl
theorem dX8_joined_2 : decode cX8_joined 2 = .ok (.iload_n 2, 1) := dz_at dqX8_joined_p040 2 rfl
theorem dX8_joined_3 : decode cX8_joined 3 = .ok (.invokevirtual 21, 3) := dz_at dqX8_joined_p040 3 rfl
theorem dX8_joined_6 : decode cX8_joined 6 = .ok (.iconst 1, 1) := dz_at dqX8_joined_p040 4 rfl
theorem dX8_joined_7 : decode cX8_joined 7 = .ok (.if_icmp .ne 7, 3) := dz_at dqX8_joined_p040 5 rfl
theorem dX8_joined_10 : decode cX8_joined 10 = .ok (.iconst 1, 1) := dz_at dqX8_joined_p040 6 rfl
theorem dX8_joined_11 : decode cX8_joined 11 = .ok (.goto 4, 3) := dz_at dqX8_joined_p040 7 rfl
theorem dX8_joined_14 : decode cX8_joined 14 = .ok (.iconst 0, 1) := dz_at dqX8_joined_p040 8 rfl
theorem dX8_joined_15 : decode cX8_joined 15 = .ok (.ireturn, 1) := dz_at dqX8_joined_p040 9 rfl
set_option maxRecDepth 20000 in
theorem ggX8_join_X8_between : GoodIn wsX8_join wsX8_between := goodIn_r _ [6, 7, 12, 13] rfl (by decide +kernel)
set_option maxRecDepth 20000 in
theorem gX8_join_X8_between : GoodIn wsX8_join (wsV RX8 21 RX8 yX8_between wsX8_between) := goodIn_app (goodIn_of _ (by decide +kernel)) ggX8_join_X8_between
set_option maxRecDepth 20000 in
theorem ggX8_join_X8_shorten : GoodIn wsX8_join wsX8_shorten := goodIn_r _ [11, 7, 2, 3, 4, 5, 6, 12, 13] rfl (by decide +kernel)
set_option maxRecDepth 20000 in
theorem gX8_join_X8_shorten : GoodIn wsX8_join (wsV RX8 29 RX8 yX8_shorten wsX8_shorten) := goodIn_app (goodIn_of _ (by decide +kernel)) ggX8_join_X8_shorten
set_option maxRecDepth 20000 in
theorem dqX8_join_p040 : dz_rn 0 (cX8_join.data.toList.drop 0) [(0, 4), (0, 28), (3, 0), (0, 9), (0, 11), (3, 3), (0, 8), (0, 21), (0, 3), (2, 0), (4, 4), (0, 8), (1, 1), (1, 0)] = some [(0, .aload_n 0, 1), (1, .dup, 1), (2, .getfield 25, 3), (5, .iconst 1, 1), (6, .iadd, 1), (7, .putfield 25, 3), (10, .iconst 0, 1), (11, .istore_n 3, 1), (12, .iload_n 3, 1), (13, .bipush 8, 2), (15, .if_icmp .ge 65, 3), (18, .iconst 0, 1), (19, .istore 4, 2), (21, .iload 4, 2)] := by decide +kernel
theorem dX8_join_0 : decode cX8_join 0 = .ok (.aload_n 0, 1) := dz_at dqX8_join_p040 0 rfl
theorem dX8_join_1 : decode cX8_join 1 = .ok (.dup, 1) := dz_at dqX8_join_p040 1 rfl
theorem dX8_join_2 : decode cX8_join 2 = .ok (.getfield 25, 3) := dz_at dqX8_join_p040 2 rfl
theorem dX8_join_5 : decode cX8_join 5 = .ok (.iconst 1, 1) := dz_at dqX8_join_p040 3 rfl
theorem dX8_join_6 : decode cX8_join 6 = .ok (.iadd, 1) := dz_at dqX8_join_p040 4 rfl
theorem dX8_join_7 : decode cX8_join 7 = .ok (.putfield 25, 3) := dz_at dqX8_join_p040 5 rfl
theorem dX8_join_10 : decode cX8_join 10 = .ok (.iconst 0, 1) := dz_at dqX8_join_p040 6 rfl
theorem dX8_join_11 : decode cX8_join 11 = .ok (.istore_n 3, 1) := dz_at dqX8_join_p040 7 rfl
theorem dX8_join_12 : decode cX8_join 12 = .ok (.iload_n 3, 1) := dz_at dqX8_join_p040 8 rfl
theorem dX8_join_13 : decode cX8_join 13 = .ok (.bipush 8, 2) := dz_at dqX8_join_p040 9 rfl
theorem dX8_join_15 : decode cX8_join 15 = .ok (.if_icmp .ge 65, 3) := dz_at dqX8_join_p040 10 rfl
theorem dX8_join_18 : decode cX8_join 18 = .ok (.iconst 0, 1) := dz_at dqX8_join_p040 11 rfl
theorem dX8_join_19 : decode cX8_join 19 = .ok (.istore 4, 2) := dz_at dqX8_join_p040 12 rfl
theorem dX8_join_21 : decode cX8_join 21 = .ok (.iload 4, 2) := dz_at dqX8_join_p040 13 rfl
set_option maxRecDepth 20000 in
theorem dqX8_join_p041 : dz_rn 23 (cX8_join.data.toList.drop 23) [(2, 0), (4, 4), (0, 4), (0, 3), (1, 0), (0, 4), (0, 3), (0, 1), (3, 1), (0, 4), (0, 2), (1, 0), (3, 1), (3, 1)] = some [(23, .bipush 8, 2), (25, .if_icmp .ge 49, 3), (28, .aload_n 0, 1), (29, .iload_n 3, 1), (30, .iload 4, 2), (32, .aload_n 0, 1), (33, .iload_n 3, 1), (34, .iload_n 1, 1), (35, .invokevirtual 21, 3), (38, .aload_n 0, 1), (39, .iload_n 2, 1), (40, .iload 4, 2), (42, .invokevirtual 21, 3), (45, .invokevirtual 29, 3)] := by decide +kernel
theorem dX8_join_23 : decode cX8_join 23 = .ok (.bipush 8, 2) := dz_at dqX8_join_p041 0 rfl
theorem dX8_join_25 : decode cX8_join 25 = .ok (.if_icmp .ge 49, 3) := dz_at dqX8_join_p041 1 rfl
theorem dX8_join_28 : decode cX8_join 28 = .ok (.aload_n 0, 1) := dz_at dqX8_join_p041 2 rfl
theorem dX8_join_29 : decode cX8_join 29 = .ok (.iload_n 3, 1) := dz_at dqX8_join_p041 3 rfl
theorem dX8_join_30 : decode cX8_join 30 = .ok (.iload 4, 2) := dz_at dqX8_join_p041 4 rfl
theorem dX8_join_32 : decode cX8_join 32 = .ok (.aload_n 0, 1) := dz_at dqX8_join_p041 5 rfl
theorem dX8_join_33 : decode cX8_join 33 = .ok (.iload_n 3, 1) := dz_at dqX8_join_p041 6 rfl
theorem dX8_join_34 : decode cX8_join 34 = .ok (.iload_n 1, 1) := dz_at dqX8_join_p041 7 rfl
theorem dX8_join_35 : decode cX8_join 35 = .ok (.invokevirtual 21, 3) := dz_at dqX8_join_p041 8 rfl
theorem dX8_join_38 : decode cX8_join 38 = .ok (.aload_n 0, 1) := dz_at dqX8_join_p041 9 rfl
theorem dX8_join_39 : decode cX8_join 39 = .ok (.iload_n 2, 1) := dz_at dqX8_join_p041 10 rfl
theorem dX8_join_40 : decode cX8_join 40 = .ok (.iload 4, 2) := dz_at dqX8_join_p041 11 rfl
theorem dX8_join_42 : decode cX8_join 42 = .ok (.invokevirtual 21, 3) := dz_at dqX8_join_p041 12 rfl
theorem dX8_join_45 : decode cX8_join 45 = .ok (.invokevirtual 29, 3) := dz_at dqX8_join_p041 13 rfl
set_option maxRecDepth 20000 in
theorem dqX8_join_p042 : dz_rn 48 (cX8_join.data.toList.drop 48) [(0, 4), (0, 3), (1, 0), (0, 4), (0, 3), (0, 2), (3, 1), (0, 4), (0, 1), (1, 0), (3, 1), (3, 1), (5, 0), (4, 0)] = some [(48, .aload_n 0, 1), (49, .iload_n 3, 1), (50, .iload 4, 2), (52, .aload_n 0, 1), (53, .iload_n 3, 1), (54, .iload_n 2, 1), (55, .invokevirtual 21, 3), (58, .aload_n 0, 1), (59, .iload_n 1, 1), (60, .iload 4, 2), (62, .invokevirtual 21, 3), (65, .invokevirtual 29, 3), (68, .iinc 4 1, 3), (71, .goto (-50), 3)] := by decide +kernel
theorem dX8_join_48 : decode cX8_join 48 = .ok (.aload_n 0, 1) := dz_at dqX8_join_p042 0 rfl
theorem dX8_join_49 : decode cX8_join 49 = .ok (.iload_n 3, 1) := dz_at dqX8_join_p042 1 rfl
theorem dX8_join_50 : decode cX8_join 50 = .ok (.iload 4, 2) := dz_at dqX8_join_p042 2 rfl
theorem dX8_join_52 : decode cX8_join 52 = .ok (.aload_n 0, 1) := dz_at dqX8_join_p042 3 rfl
theorem dX8_join_53 : decode cX8_join 53 = .ok (.iload_n 3, 1) := dz_at dqX8_join_p042 4 rfl
theorem dX8_join_54 : decode cX8_join 54 = .ok (.iload_n 2, 1) := dz_at dqX8_join_p042 5 rfl
theorem dX8_join_55 : decode cX8_join 55 = .ok (.invokevirtual 21, 3) := dz_at dqX8_join_p042 6 rfl
theorem dX8_join_58 : decode cX8_join 58 = .ok (.aload_n 0, 1) := dz_at dqX8_join_p042 7 rfl
theorem dX8_join_59 : decode cX8_join 59 = .ok (.iload_n 1, 1) := dz_at dqX8_join_p042 8 rfl
theorem dX8_join_60 : decode cX8_join 60 = .ok (.iload 4, 2) := dz_at dqX8_join_p042 9 rfl
theorem dX8_join_62 : decode cX8_join 62 = .ok (.invokevirtual 21, 3) := dz_at dqX8_join_p042 10 rfl
theorem dX8_join_65 : decode cX8_join 65 = .ok (.invokevirtual 29, 3) := dz_at dqX8_join_p042 11 rfl
theorem dX8_join_68 : decode cX8_join 68 = .ok (.iinc 4 1, 3) := dz_at dqX8_join_p042 12 rfl
theorem dX8_join_71 : decode cX8_join 71 = .ok (.goto (-50), 3) := dz_at dqX8_join_p042 13 rfl
set_option maxRecDepth 20000 in
theorem dqX8_join_p043 : dz_rn 74 (cX8_join.data.toList.drop 74) [(5, 0), (4, 0), (0, 25)] = some [(74, .iinc 3 1, 3), (77, .goto (-65), 3), (80, .return_, 1)] := by decide +kernel
theorem dX8_join_74 : decode cX8_join 74 = .ok (.iinc 3 1, 3) := dz_at dqX8_join_p043 0 rfl
theorem dX8_join_77 : decode cX8_join 77 = .ok (.goto (-65), 3) := dz_at dqX8_join_p043 1 rfl
theorem dX8_join_80 : decode cX8_join 80 = .ok (.return_, 1) := dz_at dqX8_join_p043 2 rfl
set_option maxRecDepth 20000 in
theorem ggX8_shorten_X8_between : GoodIn wsX8_shorten wsX8_between := goodIn_r _ [6, 1, 7, 8] rfl (by decide +kernel)
set_option maxRecDepth 20000 in
theorem gX8_shorten_X8_between : GoodIn wsX8_shorten (wsV RX8 21 RX8 yX8_between wsX8_between) := goodIn_app (goodIn_of _ (by decide +kernel)) ggX8_shorten_X8_between
set_option maxRecDepth 20000 in
theorem dqX8_shorten_p040 : dz_rn 0 (cX8_shorten.data.toList.drop 0) [(0, 3), (0, 13), (4, 1), (1, 0), (0, 13), (4, 2), (0, 25), (0, 4), (0, 1), (0, 2), (3, 1), (1, 1), (0, 3), (0, 9)] = some [(0, .iload_n 3, 1), (1, .iconst (-1), 1), (2, .if_icmp .eq 9, 3), (5, .iload 4, 2), (7, .iconst (-1), 1), (8, .if_icmp .ne 4, 3), (11, .return_, 1), (12, .aload_n 0, 1), (13, .iload_n 1, 1), (14, .iload_n 2, 1), (15, .invokevirtual 21, 3), (18, .istore 5, 2), (20, .iload_n 3, 1), (21, .iconst 1, 1)] := by decide +kernel
theorem dX8_shorten_0 : decode cX8_shorten 0 = .ok (.iload_n 3, 1) := dz_at dqX8_shorten_p040 0 rfl
theorem dX8_shorten_1 : decode cX8_shorten 1 = .ok (.iconst (-1), 1) := dz_at dqX8_shorten_p040 1 rfl
theorem dX8_shorten_2 : decode cX8_shorten 2 = .ok (.if_icmp .eq 9, 3) := dz_at dqX8_shorten_p040 2 rfl
theorem dX8_shorten_5 : decode cX8_shorten 5 = .ok (.iload 4, 2) := dz_at dqX8_shorten_p040 3 rfl
theorem dX8_shorten_7 : decode cX8_shorten 7 = .ok (.iconst (-1), 1) := dz_at dqX8_shorten_p040 4 rfl
theorem dX8_shorten_8 : decode cX8_shorten 8 = .ok (.if_icmp .ne 4, 3) := dz_at dqX8_shorten_p040 5 rfl
theorem dX8_shorten_11 : decode cX8_shorten 11 = .ok (.return_, 1) := dz_at dqX8_shorten_p040 6 rfl
theorem dX8_shorten_12 : decode cX8_shorten 12 = .ok (.aload_n 0, 1) := dz_at dqX8_shorten_p040 7 rfl
theorem dX8_shorten_13 : decode cX8_shorten 13 = .ok (.iload_n 1, 1) := dz_at dqX8_shorten_p040 8 rfl
theorem dX8_shorten_14 : decode cX8_shorten 14 = .ok (.iload_n 2, 1) := dz_at dqX8_shorten_p040 9 rfl
theorem dX8_shorten_15 : decode cX8_shorten 15 = .ok (.invokevirtual 21, 3) := dz_at dqX8_shorten_p040 10 rfl
theorem dX8_shorten_18 : decode cX8_shorten 18 = .ok (.istore 5, 2) := dz_at dqX8_shorten_p040 11 rfl
theorem dX8_shorten_20 : decode cX8_shorten 20 = .ok (.iload_n 3, 1) := dz_at dqX8_shorten_p040 12 rfl
theorem dX8_shorten_21 : decode cX8_shorten 21 = .ok (.iconst 1, 1) := dz_at dqX8_shorten_p040 13 rfl
set_option maxRecDepth 20000 in
theorem dqX8_shorten_p041 : dz_rn 22 (cX8_shorten.data.toList.drop 22) [(0, 11), (1, 0), (0, 11), (1, 1), (1, 0), (0, 13), (4, 1), (1, 0), (1, 0), (4, 4), (0, 4), (3, 0), (0, 1), (2, 0)] = some [(22, .iadd, 1), (23, .iload 4, 2), (25, .iadd, 1), (26, .istore 6, 2), (28, .iload 5, 2), (30, .iconst (-1), 1), (31, .if_icmp .eq 10, 3), (34, .iload 6, 2), (36, .iload 5, 2), (38, .if_icmp .ge 16, 3), (41, .aload_n 0, 1), (42, .getfield 9, 3), (45, .iload_n 1, 1), (46, .bipush 8, 2)] := by decide +kernel
theorem dX8_shorten_22 : decode cX8_shorten 22 = .ok (.iadd, 1) := dz_at dqX8_shorten_p041 0 rfl
theorem dX8_shorten_23 : decode cX8_shorten 23 = .ok (.iload 4, 2) := dz_at dqX8_shorten_p041 1 rfl
theorem dX8_shorten_25 : decode cX8_shorten 25 = .ok (.iadd, 1) := dz_at dqX8_shorten_p041 2 rfl
theorem dX8_shorten_26 : decode cX8_shorten 26 = .ok (.istore 6, 2) := dz_at dqX8_shorten_p041 3 rfl
theorem dX8_shorten_28 : decode cX8_shorten 28 = .ok (.iload 5, 2) := dz_at dqX8_shorten_p041 4 rfl
theorem dX8_shorten_30 : decode cX8_shorten 30 = .ok (.iconst (-1), 1) := dz_at dqX8_shorten_p041 5 rfl
theorem dX8_shorten_31 : decode cX8_shorten 31 = .ok (.if_icmp .eq 10, 3) := dz_at dqX8_shorten_p041 6 rfl
theorem dX8_shorten_34 : decode cX8_shorten 34 = .ok (.iload 6, 2) := dz_at dqX8_shorten_p041 7 rfl
theorem dX8_shorten_36 : decode cX8_shorten 36 = .ok (.iload 5, 2) := dz_at dqX8_shorten_p041 8 rfl
theorem dX8_shorten_38 : decode cX8_shorten 38 = .ok (.if_icmp .ge 16, 3) := dz_at dqX8_shorten_p041 9 rfl
theorem dX8_shorten_41 : decode cX8_shorten 41 = .ok (.aload_n 0, 1) := dz_at dqX8_shorten_p041 10 rfl
theorem dX8_shorten_42 : decode cX8_shorten 42 = .ok (.getfield 9, 3) := dz_at dqX8_shorten_p041 11 rfl
theorem dX8_shorten_45 : decode cX8_shorten 45 = .ok (.iload_n 1, 1) := dz_at dqX8_shorten_p041 12 rfl
theorem dX8_shorten_46 : decode cX8_shorten 46 = .ok (.bipush 8, 2) := dz_at dqX8_shorten_p041 13 rfl
set_option maxRecDepth 20000 in
theorem dqX8_shorten_p042 : dz_rn 48 (cX8_shorten.data.toList.drop 48) [(0, 23), (0, 2), (0, 11), (1, 0), (0, 22), (0, 25)] = some [(48, .imul, 1), (49, .iload_n 2, 1), (50, .iadd, 1), (51, .iload 6, 2), (53, .iastore, 1), (54, .return_, 1)] := by decide +kernel
theorem dX8_shorten_48 : decode cX8_shorten 48 = .ok (.imul, 1) := dz_at dqX8_shorten_p042 0 rfl
theorem dX8_shorten_49 : decode cX8_shorten 49 = .ok (.iload_n 2, 1) := dz_at dqX8_shorten_p042 1 rfl
theorem dX8_shorten_50 : decode cX8_shorten 50 = .ok (.iadd, 1) := dz_at dqX8_shorten_p042 2 rfl
theorem dX8_shorten_51 : decode cX8_shorten 51 = .ok (.iload 6, 2) := dz_at dqX8_shorten_p042 3 rfl
theorem dX8_shorten_53 : decode cX8_shorten 53 = .ok (.iastore, 1) := dz_at dqX8_shorten_p042 4 rfl
theorem dX8_shorten_54 : decode cX8_shorten 54 = .ok (.return_, 1) := dz_at dqX8_shorten_p042 5 rfl
def bc (x : Int32) : Int32 :=
  let x1 := x - (((x.toUInt32 >>> ((1 : Int32).toUInt32 &&& Int32.toUInt32 31)).toInt32) &&& 1431655765)
  let x2 := (x1 &&& 858993459) + (((x1.toUInt32 >>> ((2 : Int32).toUInt32 &&& Int32.toUInt32 31)).toInt32) &&& 858993459)
  let x3 := (x2 + ((x2.toUInt32 >>> ((4 : Int32).toUInt32 &&& Int32.toUInt32 31)).toInt32)) &&& 252645135
  let x4 := x3 + ((x3.toUInt32 >>> ((8 : Int32).toUInt32 &&& Int32.toUInt32 31)).toInt32)
  let x5 := x4 + ((x4.toUInt32 >>> ((16 : Int32).toUInt32 &&& Int32.toUInt32 31)).toInt32)
  x5 &&& 63
abbrev wNil (cI cZ cQ : ClassId) : va_W := []
abbrev wWys (cI cZ cQ : ClassId) (a : Nat → Nat) (few : Nat → Int32) (doo : Int32) : va_W := [((a 0), .inr (8, [.ref (a 1), .int doo])), ((a 1), .inl (cI, 64, .inl few))]
abbrev wPic (cI cZ cQ : ClassId) (a : Nat → Nat) (mar : Nat → Int32) : va_W := [((a 2), .inr (2, [.ref (a 3)])), ((a 3), .inl (cI, 24, .inl mar))]
abbrev wCor (cI cZ cQ : ClassId) (a : Nat → Nat) (top : Nat → Int32) (str : Nat → Int32) (gho : Nat → Int32) (ghs : Nat → Int32) (pto : Nat → Int32) (cro : Nat → Int32) (pla : Nat → Int32) (wal : Nat → Int32) (fal : Nat → Int32) (tel : Int32) (gai : Int32) (day : Int32) (mar : Nat → Int32) : va_W := [((a 4), .inr (1, [.ref (a 2), .ref (a 5), .ref (a 6), .ref (a 7), .ref (a 8), .ref (a 9), .ref (a 10), .ref (a 11), .ref (a 12), .ref (a 13), .int tel, .int gai, .int day])), ((a 5), .inl (cI, 48, .inl top)), ((a 6), .inl (cI, 48, .inl str)), ((a 7), .inl (cI, 48, .inl gho)), ((a 8), .inl (cI, 48, .inl ghs)), ((a 9), .inl (cI, 48, .inl pto)), ((a 10), .inl (cI, 48, .inl cro)), ((a 11), .inl (cI, 24, .inl pla)), ((a 12), .inl (cI, 8, .inl wal)), ((a 13), .inl (cI, 11, .inl fal)), ((a 2), .inr (2, [.ref (a 3)])), ((a 3), .inl (cI, 24, .inl mar))]
abbrev wTxt (cI cZ cQ : ClassId) (a : Nat → Nat) (byt : Nat → Int32) (len : Int32) (tst : Int32) (ten : Int32) : va_W := [((a 14), .inr (7, [.ref (a 15), .int len, .int tst, .int ten])), ((a 15), .inl (cI, 160, .inl byt))]
abbrev wRul (cI cZ cQ : ClassId) (rb0 : Nat) (rb1 : Nat) (rb2 : Nat) (mos : Nat → Int32) (wev : Nat → Int32) (aga : Int32) (apa : Int32) (lin : Int32) : va_W := [(rb0, .inr (5, [.ref rb1, .ref rb2, .int aga, .int apa, .int lin])), (rb1, .inl (cI, 8, .inl mos)), (rb2, .inl (cI, 8, .inl wev))]
abbrev wTxR (cI cZ cQ : ClassId) (a : Nat → Nat) (rb0 : Nat) (rb1 : Nat) (rb2 : Nat) (byt : Nat → Int32) (len : Int32) (tst : Int32) (ten : Int32) (mos : Nat → Int32) (wev : Nat → Int32) (aga : Int32) (apa : Int32) (lin : Int32) : va_W := [((a 14), .inr (7, [.ref (a 15), .int len, .int tst, .int ten])), ((a 15), .inl (cI, 160, .inl byt)), (rb0, .inr (5, [.ref rb1, .ref rb2, .int aga, .int apa, .int lin])), (rb1, .inl (cI, 8, .inl mos)), (rb2, .inl (cI, 8, .inl wev))]
abbrev wPln (cI cZ cQ : ClassId) (a : Nat → Nat) (min : Nat → Int32) (tri : Nat → Int32) (bes : Nat → Int32) (wkd : Nat → Int32) (cos : Nat → Int32) (rst : Nat → Int32) (bst : Int32) (top : Nat → Int32) (str : Nat → Int32) (gho : Nat → Int32) (ghs : Nat → Int32) (pto : Nat → Int32) (cro : Nat → Int32) (pla : Nat → Int32) (wal : Nat → Int32) (fal : Nat → Int32) (tel : Int32) (gai : Int32) (day : Int32) (mar : Nat → Int32) (few : Nat → Int32) (doo : Int32) : va_W := [((a 16), .inr (3, [.ref (a 4), .ref (a 0), .ref (a 17), .ref (a 18), .ref (a 19), .ref (a 20), .ref (a 21), .ref (a 22), .int bst])), ((a 17), .inl (cI, 4, .inl min)), ((a 18), .inl (cI, 4, .inl tri)), ((a 19), .inl (cI, 4, .inl bes)), ((a 20), .inl (cI, 8, .inl wkd)), ((a 21), .inl (cI, 8, .inl cos)), ((a 22), .inl (cI, 128, .inl rst)), ((a 4), .inr (1, [.ref (a 2), .ref (a 5), .ref (a 6), .ref (a 7), .ref (a 8), .ref (a 9), .ref (a 10), .ref (a 11), .ref (a 12), .ref (a 13), .int tel, .int gai, .int day])), ((a 5), .inl (cI, 48, .inl top)), ((a 6), .inl (cI, 48, .inl str)), ((a 7), .inl (cI, 48, .inl gho)), ((a 8), .inl (cI, 48, .inl ghs)), ((a 9), .inl (cI, 48, .inl pto)), ((a 10), .inl (cI, 48, .inl cro)), ((a 11), .inl (cI, 24, .inl pla)), ((a 12), .inl (cI, 8, .inl wal)), ((a 13), .inl (cI, 11, .inl fal)), ((a 2), .inr (2, [.ref (a 3)])), ((a 3), .inl (cI, 24, .inl mar)), ((a 0), .inr (8, [.ref (a 1), .int doo])), ((a 1), .inl (cI, 64, .inl few))]
abbrev wSpe (cI cZ cQ : ClassId) (a : Nat → Nat) (sor : Nat → Int32) (ord : Nat → Int32) (sha : Nat → Int32) (toc : Nat → Int32) (mar : Nat → Int32) (tol : Nat → Int32) : va_W := [((a 23), .inr (6, [.ref (a 2), .ref (a 24), .ref (a 25), .ref (a 26), .ref (a 27)])), ((a 24), .inl (cI, 8, .inl sor)), ((a 25), .inl (cI, 8, .inl ord)), ((a 26), .inl (cI, 64, .inl sha)), ((a 27), .inl (cI, 2048, .inl toc)), ((a 2), .inr (2, [.ref (a 3)])), ((a 3), .inl (cI, 24, .inl mar)), ((a 42), .inl (cI, 8, .inl tol))]
abbrev wCod (cI cZ cQ : ClassId) (a : Nat → Nat) (ali : Nat → Int32) (thi : Nat → Int32) (ctr : Nat → Int32) (cbe : Nat → Int32) (har : Int32) (mar : Nat → Int32) (tol : Nat → Int32) : va_W := [((a 28), .inr (0, [.ref (a 2), .ref (a 29), .ref (a 30), .ref (a 31), .ref (a 32), .int har])), ((a 29), .inl (cI, 100, .inl ali)), ((a 30), .inl (cI, 8, .inl thi)), ((a 31), .inl (cI, 6, .inl ctr)), ((a 32), .inl (cI, 6, .inl cbe)), ((a 2), .inr (2, [.ref (a 3)])), ((a 3), .inl (cI, 24, .inl mar)), ((a 42), .inl (cI, 8, .inl tol))]
abbrev wPup (cI cZ cQ : ClassId) (pu0 : Nat) (pu1 : Nat) (agr : Nat → Int32) (ans : Int32) : va_W := [(pu0, .inr (4, [.ref pu1, .int ans])), (pu1, .inl (cI, 81, .inl agr))]
abbrev wArr (cI cZ cQ : ClassId) (ar0 : Nat) (ln : Nat) (fv : Nat → Int32) : va_W := [(ar0, .inl (cI, ln, .inl fv))]
set_option maxHeartbeats 4000000 in
set_option maxRecDepth 100000 in
theorem k_J6_bitCount_0f7a4 (l : Launch) (dC : Nat → ClassId) (dI : Nat → Nat → Nat) (cI cZ cQ : ClassId) (x : Int32)  : KR l yJ6_bitCount_0f7a4 wsJ6_bitCount_0f7a4 { frames := 0, cells := 0, slots := 0, locals := 0 } (dC, dI) (TY cI cZ cQ) (wNil cI cZ cQ) [.int x] (fun r : Int32 => (r = bc x)) := by
  refine Met.ofW (cc := cJ6_bitCount_0f7a4) (maxL := 1) (ret := (some .int)) (by decide) rfl ?_
  intro p e s m args below meth c s₁ B hml hv
  obtain ⟨rfl, hP, hK, hN⟩ := hv
  have hx := B.exec
  have hb := B.bytes
  have hr := B.returns
  have hts := atoms_spec (ws := wsJ6_bitCount_0f7a4) B.pre
  have hown : s.vm.findClass RJ6 = some m.cls := findClass_of_methodNamed B.named
  have hlocks := B.notSynchronized
  have hl := lv_entry ([.int x]) (n := 1) (Nat.le_of_ble_eq_true rfl)
  rw [lg_entry_eq]
  generalize (lg_sl ([.int x]) ++ List.replicate (1 - (lg_sl ([.int x])).length) Slot.unset).toArray = ls at hl ⊢
  have hl : lv_has ls 1 [(0, .int x)] := hl
  refine lv_iload_n hx hb dJ6_bitCount_0f7a4_0 rfl (lv_at hl 0 rfl) ?_
  refine lv_iload_n hx hb dJ6_bitCount_0f7a4_1 rfl (lv_at hl 0 rfl) ?_
  refine lv_iconst (v := 1) hx hb dJ6_bitCount_0f7a4_2 (by decide) ?_
  refine lv_iushr hx hb dJ6_bitCount_0f7a4_3 rfl ?_
  refine lv_ldcw (v := 1431655765) hx hb hown (hts (.constant RJ6 265 (1431655765)) (List.mem_cons_of_mem _ (List.mem_of_getElem? (i := 0) rfl))) dJ6_bitCount_0f7a4_4 ?_
  refine lv_iand hx hb dJ6_bitCount_0f7a4_7 ?_
  refine lv_isub hx hb dJ6_bitCount_0f7a4_8 ?_
  refine lv_topi (fun x1 ex1 => ?_)
  have ix1 : x1.toInt = (x - (((x.toUInt32 >>> ((1 : Int32).toUInt32 &&& Int32.toUInt32 31)).toInt32) &&& 1431655765)).toInt := by rw [ex1]
  refine lv_istore_n (lv' := [(0, .int x1)]) hx hb dJ6_bitCount_0f7a4_9 rfl hl (by decide) rfl (fun ls hl => ?_)
  refine lv_iload_n hx hb dJ6_bitCount_0f7a4_10 rfl (lv_at hl 0 rfl) ?_
  refine lv_ldcw (v := 858993459) hx hb hown (hts (.constant RJ6 266 (858993459)) (List.mem_cons_of_mem _ (List.mem_of_getElem? (i := 1) rfl))) dJ6_bitCount_0f7a4_11 ?_
  refine lv_iand hx hb dJ6_bitCount_0f7a4_14 ?_
  refine lv_iload_n hx hb dJ6_bitCount_0f7a4_15 rfl (lv_at hl 0 rfl) ?_
  refine lv_iconst (v := 2) hx hb dJ6_bitCount_0f7a4_16 (by decide) ?_
  refine lv_iushr hx hb dJ6_bitCount_0f7a4_17 rfl ?_
  refine lv_ldcw (v := 858993459) hx hb hown (hts (.constant RJ6 266 (858993459)) (List.mem_cons_of_mem _ (List.mem_of_getElem? (i := 1) rfl))) dJ6_bitCount_0f7a4_18 ?_
  refine lv_iand hx hb dJ6_bitCount_0f7a4_21 ?_
  refine lv_iadd hx hb dJ6_bitCount_0f7a4_22 ?_
  refine lv_topi (fun x2 ex2 => ?_)
  have ix2 : x2.toInt = ((x1 &&& 858993459) + (((x1.toUInt32 >>> ((2 : Int32).toUInt32 &&& Int32.toUInt32 31)).toInt32) &&& 858993459)).toInt := by rw [ex2]
  refine lv_istore_n (lv' := [(0, .int x2)]) hx hb dJ6_bitCount_0f7a4_23 rfl hl (by decide) rfl (fun ls hl => ?_)
  refine lv_iload_n hx hb dJ6_bitCount_0f7a4_24 rfl (lv_at hl 0 rfl) ?_
  refine lv_iload_n hx hb dJ6_bitCount_0f7a4_25 rfl (lv_at hl 0 rfl) ?_
  refine lv_iconst (v := 4) hx hb dJ6_bitCount_0f7a4_26 (by decide) ?_
  refine lv_iushr hx hb dJ6_bitCount_0f7a4_27 rfl ?_
  refine lv_iadd hx hb dJ6_bitCount_0f7a4_28 ?_
  refine lv_ldcw (v := 252645135) hx hb hown (hts (.constant RJ6 267 (252645135)) (List.mem_cons_of_mem _ (List.mem_of_getElem? (i := 2) rfl))) dJ6_bitCount_0f7a4_29 ?_
  refine lv_iand hx hb dJ6_bitCount_0f7a4_32 ?_
  refine lv_topi (fun x3 ex3 => ?_)
  have ix3 : x3.toInt = ((x2 + ((x2.toUInt32 >>> ((4 : Int32).toUInt32 &&& Int32.toUInt32 31)).toInt32)) &&& 252645135).toInt := by rw [ex3]
  refine lv_istore_n (lv' := [(0, .int x3)]) hx hb dJ6_bitCount_0f7a4_33 rfl hl (by decide) rfl (fun ls hl => ?_)
  refine lv_iload_n hx hb dJ6_bitCount_0f7a4_34 rfl (lv_at hl 0 rfl) ?_
  refine lv_iload_n hx hb dJ6_bitCount_0f7a4_35 rfl (lv_at hl 0 rfl) ?_
  refine lv_bipush (v := 8) hx hb dJ6_bitCount_0f7a4_36 (by decide) ?_
  refine lv_iushr hx hb dJ6_bitCount_0f7a4_38 rfl ?_
  refine lv_iadd hx hb dJ6_bitCount_0f7a4_39 ?_
  refine lv_topi (fun x4 ex4 => ?_)
  have ix4 : x4.toInt = (x3 + ((x3.toUInt32 >>> ((8 : Int32).toUInt32 &&& Int32.toUInt32 31)).toInt32)).toInt := by rw [ex4]
  refine lv_istore_n (lv' := [(0, .int x4)]) hx hb dJ6_bitCount_0f7a4_40 rfl hl (by decide) rfl (fun ls hl => ?_)
  refine lv_iload_n hx hb dJ6_bitCount_0f7a4_41 rfl (lv_at hl 0 rfl) ?_
  refine lv_iload_n hx hb dJ6_bitCount_0f7a4_42 rfl (lv_at hl 0 rfl) ?_
  refine lv_bipush (v := 16) hx hb dJ6_bitCount_0f7a4_43 (by decide) ?_
  refine lv_iushr hx hb dJ6_bitCount_0f7a4_45 rfl ?_
  refine lv_iadd hx hb dJ6_bitCount_0f7a4_46 ?_
  refine lv_topi (fun x5 ex5 => ?_)
  have ix5 : x5.toInt = (x4 + ((x4.toUInt32 >>> ((16 : Int32).toUInt32 &&& Int32.toUInt32 31)).toInt32)).toInt := by rw [ex5]
  refine lv_istore_n (lv' := [(0, .int x5)]) hx hb dJ6_bitCount_0f7a4_47 rfl hl (by decide) rfl (fun ls hl => ?_)
  refine lv_iload_n hx hb dJ6_bitCount_0f7a4_48 rfl (lv_at hl 0 rfl) ?_
  refine lv_bipush (v := 63) hx hb dJ6_bitCount_0f7a4_49 (by decide) ?_
  refine lv_iand hx hb dJ6_bitCount_0f7a4_51 ?_
  exact W.iret (v := x5 &&& 63) hx hb hr (fun t ht hW => ⟨x5 &&& 63, rfl, (show (x5 &&& 63) = bc x from by (subst_vars; rfl)), ht⟩) (fun q h => by cases h) dJ6_bitCount_0f7a4_52
set_option maxHeartbeats 4000000 in
set_option maxRecDepth 100000 in
theorem k_J7_fill_53178 (l : Launch) (dC : Nat → ClassId) (dI : Nat → Nat → Nat) (cI cZ cQ : ClassId) (ar0 : Nat) (ln : Nat) (fv : Nat → Int32) (sz : Nat) (v : Int32) (q0 : ln ≤ 2048) : KV l yJ7_fill_53178 wsJ7_fill_53178 { frames := 0, cells := 0, slots := 0, locals := 0 } (dC, dI) (TY cI cZ cQ) (wArr cI cZ cQ ar0 ln fv) [.ref ar0, .int v] sz 0 0 (fun (u : US) => (∀ j, j < ln → (u.1 0) j = v)) (fun u : US => (wArr cI cZ cQ ar0 ln (u.1 0))) := by
  refine Met.ofW (cc := cJ7_fill_53178) (maxL := 4) (ret := none) (by decide) rfl ?_
  intro p e s m args below meth c s₁ B hml hv
  obtain ⟨rfl, hsz, hP, hK, hD0, hN⟩ := hv
  have hx := B.exec
  have hb := B.bytes
  have hr := B.returns
  have hts := atoms_spec (ws := wsJ7_fill_53178) B.pre
  have hown : s.vm.findClass RJ7 = some m.cls := findClass_of_methodNamed B.named
  have hlocks := B.notSynchronized
  subst hsz
  have hD := hD0.self (sz := s.heap.size)
  generalize hAe : va_A (wArr cI cZ cQ ar0 ln fv) s.heap.size = A at hD ⊢
  have hA : ∀ q : Nat, s.heap.size ≤ q → A q := fun q h => by rw [← hAe]; exact Or.inr h
  have hS : va_S A s.heap s.heap [] := va_S.rf
  have hl := lv_entry ([.ref ar0, .int v]) (n := 4) (Nat.le_of_ble_eq_true rfl)
  rw [lg_entry_eq]
  generalize (lg_sl ([.ref ar0, .int v]) ++ List.replicate (4 - (lg_sl ([.ref ar0, .int v])).length) Slot.unset).toArray = ls at hl ⊢
  have hl : lv_has ls 4 [(0, .ref ar0), (1, .int v)] := hl
  refine lv_iconst (v := 0) hx hb dJ7_fill_53178_0 (by decide) ?_
  refine lv_istore_n (lv' := [(2, .int 0), (0, .ref ar0), (1, .int v)]) hx hb dJ7_fill_53178_1 rfl hl (by decide) rfl (fun ls hl => ?_)
  refine lv_aload_n hx hb dJ7_fill_53178_2 rfl (lv_at hl 1 rfl) ?_
  refine va_alen (v := nI ln) hx hb hK hP 0 0 rfl rfl rfl dJ7_fill_53178_3 ?_
  refine lv_topi (fun x1 ex1 => ?_)
  have ix1 : x1.toInt = (ln : Int) := by rw [ex1]; exact (nI_toInt (by omega))
  refine lv_istore_n (lv' := [(3, .int x1), (2, .int 0), (0, .ref ar0), (1, .int v)]) hx hb dJ7_fill_53178_4 rfl hl (by decide) rfl (fun ls hl => ?_)
  have L5 : ∀ (nn : Nat) (y5_2 : Int32) (fv_5 : Nat → Int32) (H : Heap) (locs : List Loc) (ls : Array Slot), (0 ≤ (y5_2.toInt)) → ((y5_2.toInt) ≤ 2048) → (∀ j : Nat, (j : Int) < (y5_2.toInt) → fv_5 j = v) → (2048 - (y5_2.toInt)).toNat < nn → va_P (dC, dI) vwCl (wArr cI cZ cQ ar0 ln fv_5) H → va_D A (wArr cI cZ cQ ar0 ln fv_5) → va_S A s.heap H locs → lv_has ls 4 [(0, .ref ar0), (1, .int v), (2, .int y5_2), (3, .int x1)] → W p l e (headSpec wsJ7_fill_53178 { frames := 0, cells := 0, slots := 0, locals := 0 }).room s m ([.ref ar0, .int v] : List Value).toArray below meth c H locs 0 0 (MQ below (va_Qv (fun (u : US) => (∀ j, j < ln → (u.1 0) j = v)) (Bw (dC, dI) A (fun u : US => (wArr cI cZ cQ ar0 ln (u.1 0)))) A) ([.ref ar0, .int v] : List Value).toArray s 0 0 A) (F0 m 5 ls []) := by
    intro nn
    induction nn with
    | zero =>
      intro y5_2 fv_5 H locs ls i5_0 i5_1 i5_2 hm
      exact absurd hm (Nat.not_lt_zero _)
    | succ nn ih5 =>
      intro y5_2 fv_5 H locs ls i5_0 i5_1 i5_2 hm hP hD hS hl
      refine lv_iload_n hx hb dJ7_fill_53178_5 rfl (lv_at hl 2 rfl) ?_
      refine lv_iload_n hx hb dJ7_fill_53178_6 rfl (lv_at hl 3 rfl) ?_
      refine lv_icmp_ge (tgt := 20) hx hb dJ7_fill_53178_7 (by decide) (fun c2 => ?_) (fun c2 => ?_)
      · have dc2 : x1.toInt ≤ y5_2.toInt := leC rfl rfl c2
        exact W.vret hx hb hr (fun t ht hW => ⟨⟨(uS [fv_5] 0 (fun _ => 0)), rfl, (show ∀ j, j < ln → fv_5 j = v from by (intro j hj; exact i5_2 j (by omega))), by rw [ht]; exact hP, hD⟩, hS.F ht⟩) hS.2.2 dJ7_fill_53178_20
      · have dc2 : y5_2.toInt < x1.toInt := nleC rfl rfl c2
        refine lv_aload_n hx hb dJ7_fill_53178_10 rfl (lv_at hl 0 rfl) ?_
        refine lv_iload_n hx hb dJ7_fill_53178_11 rfl (lv_at hl 2 rfl) ?_
        refine lv_iload_n hx hb dJ7_fill_53178_12 rfl (lv_at hl 1 rfl) ?_
        have b3 : vp_in y5_2 ln := inC rfl (by omega) (by omega)
        refine va_iast hx hb hK hP hD hS 0 0 rfl rfl b3 dJ7_fill_53178_13 (fun H locs hP hD hS => ?_)
        obtain ⟨fv_u4, efv_u4⟩ : ∃ f : Nat → Int32, f = upd fv_5 y5_2.toNatClampNeg v := ⟨_, rfl⟩
        have hP : va_P (dC, dI) vwCl (wArr cI cZ cQ ar0 ln fv_u4) H := by rw [efv_u4]; exact hP
        have hD : va_D A (wArr cI cZ cQ ar0 ln fv_u4) := by rw [efv_u4]; exact hD
        obtain ⟨z5, ez5⟩ : ∃ y : Int32, y = y5_2 + 1 := ⟨_, rfl⟩
        have iz5 : z5.toInt = y5_2.toInt + 1 := by rw [ez5]; exact addC rfl rfl (by omega) (by omega)
        refine lv_iinc (v := z5) (lv' := [(2, .int z5), (0, .ref ar0), (1, .int v), (3, .int x1)]) hx hb dJ7_fill_53178_14 hl (k := 2) rfl (by rw [ez5]; rfl) (by decide) rfl (fun ls hl => ?_)
        refine lv_goto (tgt := 5) hx hb dJ7_fill_53178_17 (by decide) ?_
        exact ih5 z5 fv_u4 _ _ _ (by omega) (by omega) (by first | (intro j hj; subst_vars; by_cases e : j = y5_2.toNatClampNeg <;> first | (rw [pk_un e]; exact i5_2 j (by have := clC (x := y5_2) rfl; omega)) | (subst e; exact pk_us)) | (intro j hj; omega)) (by omega) hP hD hS (lv_sub hl [1, 2, 0, 3] rfl)
  have kc6 : (0 : Int32).toInt = 0 := rfl
  exact L5 _ 0 fv _ _ _ (by omega) (by omega) (by first | (intro j hj; omega) | (intro j hj; subst_vars; by_cases e : j = y5_2.toNatClampNeg <;> first | (subst e; exact pk_us) | (rw [pk_un e]; exact i5_2 j (by have := clC (x := y5_2) rfl; omega)))) (Nat.lt_succ_self _) hP hD hS (lv_sub hl [2, 3, 1, 0] rfl)
set_option maxHeartbeats 4000000 in
set_option maxRecDepth 100000 in
theorem k_X9_within (l : Launch) (dC : Nat → ClassId) (dI : Nat → Nat → Nat) (cI cZ cQ : ClassId) (v : Int32) (least : Int32) (most : Int32)  : KR l yX9_within wsX9_within { frames := 0, cells := 0, slots := 0, locals := 0 } (dC, dI) (TY cI cZ cQ) (wNil cI cZ cQ) [.int v, .int least, .int most] (fun r : Int32 => ((((r = 1) ∧ (least.toInt ≤ v.toInt) ∧ (v.toInt ≤ most.toInt)) ∨ ((r = 0) ∧ (v.toInt < least.toInt ∨ most.toInt < v.toInt))))) := by
  refine Met.ofW (cc := cX9_within) (maxL := 3) (ret := (some .boolean)) (by decide) rfl ?_
  intro p e s m args below meth c s₁ B hml hv
  obtain ⟨rfl, hP, hK, hN⟩ := hv
  have hx := B.exec
  have hb := B.bytes
  have hr := B.returns
  have hts := atoms_spec (ws := wsX9_within) B.pre
  have hown : s.vm.findClass RX9 = some m.cls := findClass_of_methodNamed B.named
  have hlocks := B.notSynchronized
  have hl := lv_entry ([.int v, .int least, .int most]) (n := 3) (Nat.le_of_ble_eq_true rfl)
  rw [lg_entry_eq]
  generalize (lg_sl ([.int v, .int least, .int most]) ++ List.replicate (3 - (lg_sl ([.int v, .int least, .int most])).length) Slot.unset).toArray = ls at hl ⊢
  have hl : lv_has ls 3 [(0, .int v), (1, .int least), (2, .int most)] := hl
  refine lv_iload_n hx hb dX9_within_0 rfl (lv_at hl 0 rfl) ?_
  refine lv_iload_n hx hb dX9_within_1 rfl (lv_at hl 1 rfl) ?_
  refine lv_icmp_lt (tgt := 14) hx hb dX9_within_2 (by decide) (fun c1 => ?_) (fun c1 => ?_)
  · have dc1 : v.toInt < least.toInt := ltC rfl rfl c1
    refine lv_iconst (v := 0) hx hb dX9_within_14 (by decide) ?_
    exact W.zret (v := 0) hx hb hr (by decide) (fun t ht hW => ⟨0, rfl, (Or.inr (⟨rfl, (show v.toInt < least.toInt ∨ most.toInt < v.toInt from by (try rw [show (0 : Int32).toInt = 0 from (show (0 : Int32).toInt = 0 from rfl)]); omega)⟩)), ht⟩) (fun q h => by cases h) dX9_within_15
  · have dc1 : least.toInt ≤ v.toInt := nltC rfl rfl c1
    refine lv_iload_n hx hb dX9_within_5 rfl (lv_at hl 0 rfl) ?_
    refine lv_iload_n hx hb dX9_within_6 rfl (lv_at hl 2 rfl) ?_
    refine lv_icmp_gt (tgt := 14) hx hb dX9_within_7 (by decide) (fun c2 => ?_) (fun c2 => ?_)
    · have dc2 : most.toInt < v.toInt := ltC rfl rfl c2
      refine lv_iconst (v := 0) hx hb dX9_within_14 (by decide) ?_
      exact W.zret (v := 0) hx hb hr (by decide) (fun t ht hW => ⟨0, rfl, (Or.inr (⟨rfl, (show v.toInt < least.toInt ∨ most.toInt < v.toInt from by (try rw [show (0 : Int32).toInt = 0 from (show (0 : Int32).toInt = 0 from rfl)]); omega)⟩)), ht⟩) (fun q h => by cases h) dX9_within_15
    · have dc2 : v.toInt ≤ most.toInt := nltC rfl rfl c2
      refine lv_iconst (v := 1) hx hb dX9_within_10 (by decide) ?_
      refine lv_goto (tgt := 15) hx hb dX9_within_11 (by decide) ?_
      exact W.zret (v := 1) hx hb hr (by decide) (fun t ht hW => ⟨1, rfl, (Or.inl (⟨rfl, (show least.toInt ≤ v.toInt from by (try rw [show (1 : Int32).toInt = 1 from (show (1 : Int32).toInt = 1 from rfl)]); omega), (show v.toInt ≤ most.toInt from by (try rw [show (1 : Int32).toInt = 1 from (show (1 : Int32).toInt = 1 from rfl)]); omega)⟩)), ht⟩) (fun q h => by cases h) dX9_within_15
set_option maxHeartbeats 4000000 in
set_option maxRecDepth 100000 in
theorem k_X9_isRoom (l : Launch) (dC : Nat → ClassId) (dI : Nat → Nat → Nat) (cI cZ cQ : ClassId) (v : Int32)  : KR l yX9_isRoom wsX9_isRoom { frames := 1, cells := 0, slots := 0, locals := 22 } (dC, dI) (TY cI cZ cQ) (wNil cI cZ cQ) [.int v] (fun r : Int32 => ((((r = 1) ∧ (0 ≤ v.toInt) ∧ (v.toInt ≤ 7)) ∨ ((r = 0) ∧ (v.toInt < 0 ∨ 7 < v.toInt))))) := by
  refine Met.ofW (cc := cX9_isRoom) (maxL := 1) (ret := (some .boolean)) (by decide) rfl ?_
  intro p e s m args below meth c s₁ B hml hv
  obtain ⟨rfl, hP, hK, hN⟩ := hv
  have hx := B.exec
  have hb := B.bytes
  have hr := B.returns
  have hts := atoms_spec (ws := wsX9_isRoom) B.pre
  have hown : s.vm.findClass RX9 = some m.cls := findClass_of_methodNamed B.named
  have hlocks := B.notSynchronized
  have hl := lv_entry ([.int v]) (n := 1) (Nat.le_of_ble_eq_true rfl)
  rw [lg_entry_eq]
  generalize (lg_sl ([.int v]) ++ List.replicate (1 - (lg_sl ([.int v])).length) Slot.unset).toArray = ls at hl ⊢
  have hl : lv_has ls 1 [(0, .int v)] := hl
  refine lv_iload_n hx hb dX9_isRoom_0 rfl (lv_at hl 0 rfl) ?_
  refine lv_iconst (v := 0) hx hb dX9_isRoom_1 (by decide) ?_
  refine lv_bipush (v := 7) hx hb dX9_isRoom_2 (by decide) ?_
  refine rdS (As := [.int v, .int 0, .int 7]) (rest := []) ⟨hx, hb, hml, hown, hts⟩ (k_X9_within l dC dI cI cZ cQ v (0 : Int32) (7 : Int32)) (va_cwS 3 hts gX9_isRoom_X9_within rfl rfl rfl (by decide +kernel) ⟨Nat.le_of_ble_eq_true rfl, Nat.le_of_ble_eq_true rfl⟩) hP hK hN [] rfl rfl hl.1 rfl (Nat.le_of_ble_eq_true rfl) dX9_isRoom_4 ⟨Nat.le_of_ble_eq_true rfl, Nat.le_of_ble_eq_true rfl⟩ (fun r1 h2 => ?_)
  have h2 : ((((r1 = 1) ∧ ((0) ≤ v.toInt) ∧ (v.toInt ≤ (7))) ∨ ((r1 = 0) ∧ (v.toInt < (0) ∨ (7) < v.toInt)))) := h2
  rcases h2 with (⟨rfl, h2_a0, h2_a1⟩ | ⟨rfl, h2_a0⟩)
  · exact W.zret (v := 1) hx hb hr (by decide) (fun t ht hW => ⟨1, rfl, (Or.inl (⟨rfl, (show 0 ≤ v.toInt from by (try rw [show (1 : Int32).toInt = 1 from (show (1 : Int32).toInt = 1 from rfl)]); omega), (show v.toInt ≤ 7 from by (try rw [show (1 : Int32).toInt = 1 from (show (1 : Int32).toInt = 1 from rfl)]); omega)⟩)), ht⟩) (fun q h => by cases h) dX9_isRoom_7
  · exact W.zret (v := 0) hx hb hr (by decide) (fun t ht hW => ⟨0, rfl, (Or.inr (⟨rfl, (show v.toInt < 0 ∨ 7 < v.toInt from by (try rw [show (0 : Int32).toInt = 0 from (show (0 : Int32).toInt = 0 from rfl)]); omega)⟩)), ht⟩) (fun q h => by cases h) dX9_isRoom_7
set_option maxHeartbeats 4000000 in
set_option maxRecDepth 100000 in
theorem k_X9_isCorner (l : Launch) (dC : Nat → ClassId) (dI : Nat → Nat → Nat) (cI cZ cQ : ClassId) (v : Int32)  : KR l yX9_isCorner wsX9_isCorner { frames := 1, cells := 0, slots := 0, locals := 22 } (dC, dI) (TY cI cZ cQ) (wNil cI cZ cQ) [.int v] (fun r : Int32 => ((((r = 1) ∧ (0 ≤ v.toInt) ∧ (v.toInt ≤ 47)) ∨ ((r = 0) ∧ (v.toInt < 0 ∨ 47 < v.toInt))))) := by
  refine Met.ofW (cc := cX9_isCorner) (maxL := 1) (ret := (some .boolean)) (by decide) rfl ?_
  intro p e s m args below meth c s₁ B hml hv
  obtain ⟨rfl, hP, hK, hN⟩ := hv
  have hx := B.exec
  have hb := B.bytes
  have hr := B.returns
  have hts := atoms_spec (ws := wsX9_isCorner) B.pre
  have hown : s.vm.findClass RX9 = some m.cls := findClass_of_methodNamed B.named
  have hlocks := B.notSynchronized
  have hl := lv_entry ([.int v]) (n := 1) (Nat.le_of_ble_eq_true rfl)
  rw [lg_entry_eq]
  generalize (lg_sl ([.int v]) ++ List.replicate (1 - (lg_sl ([.int v])).length) Slot.unset).toArray = ls at hl ⊢
  have hl : lv_has ls 1 [(0, .int v)] := hl
  refine lv_iload_n hx hb dX9_isCorner_0 rfl (lv_at hl 0 rfl) ?_
  refine lv_iconst (v := 0) hx hb dX9_isCorner_1 (by decide) ?_
  refine lv_bipush (v := 47) hx hb dX9_isCorner_2 (by decide) ?_
  refine rdS (As := [.int v, .int 0, .int 47]) (rest := []) ⟨hx, hb, hml, hown, hts⟩ (k_X9_within l dC dI cI cZ cQ v (0 : Int32) (47 : Int32)) (va_cwS 3 hts gX9_isCorner_X9_within rfl rfl rfl (by decide +kernel) ⟨Nat.le_of_ble_eq_true rfl, Nat.le_of_ble_eq_true rfl⟩) hP hK hN [] rfl rfl hl.1 rfl (Nat.le_of_ble_eq_true rfl) dX9_isCorner_4 ⟨Nat.le_of_ble_eq_true rfl, Nat.le_of_ble_eq_true rfl⟩ (fun r1 h2 => ?_)
  have h2 : ((((r1 = 1) ∧ ((0) ≤ v.toInt) ∧ (v.toInt ≤ (47))) ∨ ((r1 = 0) ∧ (v.toInt < (0) ∨ (47) < v.toInt)))) := h2
  rcases h2 with (⟨rfl, h2_a0, h2_a1⟩ | ⟨rfl, h2_a0⟩)
  · exact W.zret (v := 1) hx hb hr (by decide) (fun t ht hW => ⟨1, rfl, (Or.inl (⟨rfl, (show 0 ≤ v.toInt from by (try rw [show (1 : Int32).toInt = 1 from (show (1 : Int32).toInt = 1 from rfl)]); omega), (show v.toInt ≤ 47 from by (try rw [show (1 : Int32).toInt = 1 from (show (1 : Int32).toInt = 1 from rfl)]); omega)⟩)), ht⟩) (fun q h => by cases h) dX9_isCorner_7
  · exact W.zret (v := 0) hx hb hr (by decide) (fun t ht hW => ⟨0, rfl, (Or.inr (⟨rfl, (show v.toInt < 0 ∨ 47 < v.toInt from by (try rw [show (0 : Int32).toInt = 0 from (show (0 : Int32).toInt = 0 from rfl)]); omega)⟩)), ht⟩) (fun q h => by cases h) dX9_isCorner_7
set_option maxHeartbeats 4000000 in
set_option maxRecDepth 100000 in
theorem k_X9_isThing (l : Launch) (dC : Nat → ClassId) (dI : Nat → Nat → Nat) (cI cZ cQ : ClassId) (v : Int32)  : KR l yX9_isThing wsX9_isThing { frames := 1, cells := 0, slots := 0, locals := 22 } (dC, dI) (TY cI cZ cQ) (wNil cI cZ cQ) [.int v] (fun r : Int32 => ((((r = 1) ∧ (0 ≤ v.toInt) ∧ (v.toInt ≤ 23)) ∨ ((r = 0) ∧ (v.toInt < 0 ∨ 23 < v.toInt))))) := by
  refine Met.ofW (cc := cX9_isThing) (maxL := 1) (ret := (some .boolean)) (by decide) rfl ?_
  intro p e s m args below meth c s₁ B hml hv
  obtain ⟨rfl, hP, hK, hN⟩ := hv
  have hx := B.exec
  have hb := B.bytes
  have hr := B.returns
  have hts := atoms_spec (ws := wsX9_isThing) B.pre
  have hown : s.vm.findClass RX9 = some m.cls := findClass_of_methodNamed B.named
  have hlocks := B.notSynchronized
  have hl := lv_entry ([.int v]) (n := 1) (Nat.le_of_ble_eq_true rfl)
  rw [lg_entry_eq]
  generalize (lg_sl ([.int v]) ++ List.replicate (1 - (lg_sl ([.int v])).length) Slot.unset).toArray = ls at hl ⊢
  have hl : lv_has ls 1 [(0, .int v)] := hl
  refine lv_iload_n hx hb dX9_isThing_0 rfl (lv_at hl 0 rfl) ?_
  refine lv_iconst (v := 0) hx hb dX9_isThing_1 (by decide) ?_
  refine lv_bipush (v := 23) hx hb dX9_isThing_2 (by decide) ?_
  refine rdS (As := [.int v, .int 0, .int 23]) (rest := []) ⟨hx, hb, hml, hown, hts⟩ (k_X9_within l dC dI cI cZ cQ v (0 : Int32) (23 : Int32)) (va_cwS 3 hts gX9_isThing_X9_within rfl rfl rfl (by decide +kernel) ⟨Nat.le_of_ble_eq_true rfl, Nat.le_of_ble_eq_true rfl⟩) hP hK hN [] rfl rfl hl.1 rfl (Nat.le_of_ble_eq_true rfl) dX9_isThing_4 ⟨Nat.le_of_ble_eq_true rfl, Nat.le_of_ble_eq_true rfl⟩ (fun r1 h2 => ?_)
  have h2 : ((((r1 = 1) ∧ ((0) ≤ v.toInt) ∧ (v.toInt ≤ (23))) ∨ ((r1 = 0) ∧ (v.toInt < (0) ∨ (23) < v.toInt)))) := h2
  rcases h2 with (⟨rfl, h2_a0, h2_a1⟩ | ⟨rfl, h2_a0⟩)
  · exact W.zret (v := 1) hx hb hr (by decide) (fun t ht hW => ⟨1, rfl, (Or.inl (⟨rfl, (show 0 ≤ v.toInt from by (try rw [show (1 : Int32).toInt = 1 from (show (1 : Int32).toInt = 1 from rfl)]); omega), (show v.toInt ≤ 23 from by (try rw [show (1 : Int32).toInt = 1 from (show (1 : Int32).toInt = 1 from rfl)]); omega)⟩)), ht⟩) (fun q h => by cases h) dX9_isThing_7
  · exact W.zret (v := 0) hx hb hr (by decide) (fun t ht hW => ⟨0, rfl, (Or.inr (⟨rfl, (show v.toInt < 0 ∨ 23 < v.toInt from by (try rw [show (0 : Int32).toInt = 0 from (show (0 : Int32).toInt = 0 from rfl)]); omega)⟩)), ht⟩) (fun q h => by cases h) dX9_isThing_7
set_option maxHeartbeats 4000000 in
set_option maxRecDepth 100000 in
theorem k_X9_isFigure (l : Launch) (dC : Nat → ClassId) (dI : Nat → Nat → Nat) (cI cZ cQ : ClassId) (v : Int32)  : KR l yX9_isFigure wsX9_isFigure { frames := 1, cells := 0, slots := 0, locals := 22 } (dC, dI) (TY cI cZ cQ) (wNil cI cZ cQ) [.int v] (fun r : Int32 => ((((r = 1) ∧ (0 ≤ v.toInt) ∧ (v.toInt ≤ 9)) ∨ ((r = 0) ∧ (v.toInt < 0 ∨ 9 < v.toInt))))) := by
  refine Met.ofW (cc := cX9_isFigure) (maxL := 1) (ret := (some .boolean)) (by decide) rfl ?_
  intro p e s m args below meth c s₁ B hml hv
  obtain ⟨rfl, hP, hK, hN⟩ := hv
  have hx := B.exec
  have hb := B.bytes
  have hr := B.returns
  have hts := atoms_spec (ws := wsX9_isFigure) B.pre
  have hown : s.vm.findClass RX9 = some m.cls := findClass_of_methodNamed B.named
  have hlocks := B.notSynchronized
  have hl := lv_entry ([.int v]) (n := 1) (Nat.le_of_ble_eq_true rfl)
  rw [lg_entry_eq]
  generalize (lg_sl ([.int v]) ++ List.replicate (1 - (lg_sl ([.int v])).length) Slot.unset).toArray = ls at hl ⊢
  have hl : lv_has ls 1 [(0, .int v)] := hl
  refine lv_iload_n hx hb dX9_isFigure_0 rfl (lv_at hl 0 rfl) ?_
  refine lv_iconst (v := 0) hx hb dX9_isFigure_1 (by decide) ?_
  refine lv_bipush (v := 9) hx hb dX9_isFigure_2 (by decide) ?_
  refine rdS (As := [.int v, .int 0, .int 9]) (rest := []) ⟨hx, hb, hml, hown, hts⟩ (k_X9_within l dC dI cI cZ cQ v (0 : Int32) (9 : Int32)) (va_cwS 3 hts gX9_isFigure_X9_within rfl rfl rfl (by decide +kernel) ⟨Nat.le_of_ble_eq_true rfl, Nat.le_of_ble_eq_true rfl⟩) hP hK hN [] rfl rfl hl.1 rfl (Nat.le_of_ble_eq_true rfl) dX9_isFigure_4 ⟨Nat.le_of_ble_eq_true rfl, Nat.le_of_ble_eq_true rfl⟩ (fun r1 h2 => ?_)
  have h2 : ((((r1 = 1) ∧ ((0) ≤ v.toInt) ∧ (v.toInt ≤ (9))) ∨ ((r1 = 0) ∧ (v.toInt < (0) ∨ (9) < v.toInt)))) := h2
  rcases h2 with (⟨rfl, h2_a0, h2_a1⟩ | ⟨rfl, h2_a0⟩)
  · exact W.zret (v := 1) hx hb hr (by decide) (fun t ht hW => ⟨1, rfl, (Or.inl (⟨rfl, (show 0 ≤ v.toInt from by (try rw [show (1 : Int32).toInt = 1 from (show (1 : Int32).toInt = 1 from rfl)]); omega), (show v.toInt ≤ 9 from by (try rw [show (1 : Int32).toInt = 1 from (show (1 : Int32).toInt = 1 from rfl)]); omega)⟩)), ht⟩) (fun q h => by cases h) dX9_isFigure_7
  · exact W.zret (v := 0) hx hb hr (by decide) (fun t ht hW => ⟨0, rfl, (Or.inr (⟨rfl, (show v.toInt < 0 ∨ 9 < v.toInt from by (try rw [show (0 : Int32).toInt = 0 from (show (0 : Int32).toInt = 0 from rfl)]); omega)⟩)), ht⟩) (fun q h => by cases h) dX9_isFigure_7
set_option maxHeartbeats 4000000 in
set_option maxRecDepth 100000 in
theorem k_X2_shared (l : Launch) (dC : Nat → ClassId) (dI : Nat → Nat → Nat) (cI cZ cQ : ClassId) (a : Nat → Nat) (mar : Nat → Int32) (one : Int32) (two : Int32) (r_mar : rg 24 (0) (255) mar) (q0 : 0 ≤ one.toInt) (q1 : one.toInt ≤ 23) (q2 : 0 ≤ two.toInt) (q3 : two.toInt ≤ 23) : KR l yX2_shared wsX2_shared { frames := 1, cells := 0, slots := 0, locals := 20 } (dC, dI) (TY cI cZ cQ) (wPic cI cZ cQ a mar) [.ref (a 2), .int one, .int two] (fun r : Int32 => (r = bc (mar one.toNatClampNeg &&& mar two.toNatClampNeg))) := by
  refine Met.ofW (cc := cX2_shared) (maxL := 3) (ret := (some .int)) (by decide) rfl ?_
  intro p e s m args below meth c s₁ B hml hv
  obtain ⟨rfl, hP, hK, hN⟩ := hv
  have hx := B.exec
  have hb := B.bytes
  have hr := B.returns
  have hts := atoms_spec (ws := wsX2_shared) B.pre
  have hown : s.vm.findClass RX2 = some m.cls := findClass_of_methodNamed B.named
  have hlocks := B.notSynchronized
  have lf9 := hts (.fieldLink RX2 9 "PalaceOfRooms$Pictures" "marksOf" "[I") (List.mem_cons_of_mem _ (List.mem_append_left _ (List.mem_of_getElem? (i := 0) rfl)))
  have inX2 : ∀ w ∈ wsX20, w ∈ wsX2_shared := fun w h => List.mem_cons_of_mem _ (List.mem_append_right _ h)
  have hl := lv_entry ([.ref (a 2), .int one, .int two]) (n := 3) (Nat.le_of_ble_eq_true rfl)
  rw [lg_entry_eq]
  generalize (lg_sl ([.ref (a 2), .int one, .int two]) ++ List.replicate (3 - (lg_sl ([.ref (a 2), .int one, .int two])).length) Slot.unset).toArray = ls at hl ⊢
  have hl : lv_has ls 3 [(0, .ref (a 2)), (1, .int one), (2, .int two)] := hl
  refine lv_aload_n hx hb dX2_shared_0 rfl (lv_at hl 0 rfl) ?_
  refine va_get (D := (dC, dI)) (ci := 2) (v := .ref (a 3)) (C := RX2) (T := TX2) (N := 1) hx hb hts inX2 hown hK hP 0 rfl rfl 0 (by decide) lf9 (fun _ h9 => h9) rfl dX2_shared_1 ?_
  refine lv_iload_n hx hb dX2_shared_4 rfl (lv_at hl 1 rfl) ?_
  have b1 : vp_in one 24 := inC rfl (by omega) (by omega)
  refine va_iald hx hb hK hP 1 0 rfl rfl b1 dX2_shared_5 ?_
  have g2 : 0 ≤ (mar one.toNatClampNeg).toInt ∧ (mar one.toNatClampNeg).toInt ≤ 255 := rg_at r_mar b1
  refine lv_aload_n hx hb dX2_shared_6 rfl (lv_at hl 0 rfl) ?_
  refine va_get (D := (dC, dI)) (ci := 2) (v := .ref (a 3)) (C := RX2) (T := TX2) (N := 1) hx hb hts inX2 hown hK hP 0 rfl rfl 0 (by decide) lf9 (fun _ h9 => h9) rfl dX2_shared_7 ?_
  refine lv_iload_n hx hb dX2_shared_10 rfl (lv_at hl 2 rfl) ?_
  have b3 : vp_in two 24 := inC rfl (by omega) (by omega)
  refine va_iald hx hb hK hP 1 0 rfl rfl b3 dX2_shared_11 ?_
  have g4 : 0 ≤ (mar two.toNatClampNeg).toInt ∧ (mar two.toNatClampNeg).toInt ≤ 255 := rg_at r_mar b3
  refine lv_iand hx hb dX2_shared_12 ?_
  refine rdS (As := [.int ((mar one.toNatClampNeg) &&& (mar two.toNatClampNeg))]) (rest := []) ⟨hx, hb, hml, hown, hts⟩ (k_J6_bitCount_0f7a4 l dC dI cI cZ cQ ((mar one.toNatClampNeg) &&& (mar two.toNatClampNeg))) (va_cwS 1 hts gX2_shared_J6_bitCount_0f7a4 rfl rfl rfl (by decide +kernel) ⟨Nat.le_of_ble_eq_true rfl, Nat.le_of_ble_eq_true rfl⟩) hP hK hN [] rfl rfl hl.1 rfl (Nat.le_of_ble_eq_true rfl) dX2_shared_13 ⟨Nat.le_of_ble_eq_true rfl, Nat.le_of_ble_eq_true rfl⟩ (fun r5 h6 => ?_)
  have h6 : (r5 = bc ((mar one.toNatClampNeg) &&& (mar two.toNatClampNeg))) := h6
  have h6_0 := h6
  exact W.iret (v := r5) hx hb hr (fun t ht hW => ⟨r5, rfl, (show r5 = bc (mar one.toNatClampNeg &&& mar two.toNatClampNeg) from by assumption), ht⟩) (fun q h => by cases h) dX2_shared_16
end
section
set_option maxRecDepth 20000 in
theorem ggX1_init_J7_fill_53178 : GoodIn wsX1_init wsJ7_fill_53178 := goodIn_r _ [20] rfl (by decide +kernel)
set_option maxRecDepth 20000 in
theorem gX1_init_J7_fill_53178 : GoodIn wsX1_init (va_wsS RX1 50 yJ7_fill_53178 wsJ7_fill_53178) := goodIn_app (goodIn_of _ (by decide +kernel)) ggX1_init_J7_fill_53178
set_option maxRecDepth 20000 in
theorem dqX1_init_p050 : dz_rn 0 (cX1_init.data.toList.drop 0) [(0, 4), (3, 5), (0, 4), (2, 0)] = some [(0, .aload_n 0, 1), (1, .invokespecial 3, 3), (4, .aload_n 0, 1), (5, .bipush 48, 2)] := by decide +kernel
theorem dX1_init_0 : decode cX1_init 0 = .ok (.aload_n 0, 1) := dz_at dqX1_init_p050 0 rfl
theorem dX1_init_1 : decode cX1_init 1 = .ok (.invokespecial 3, 3) := dz_at dqX1_init_p050 1 rfl
theorem dX1_init_4 : decode cX1_init 4 = .ok (.aload_n 0, 1) := dz_at dqX1_init_p050 2 rfl
theorem dX1_init_5 : decode cX1_init 5 = .ok (.bipush 48, 2) := dz_at dqX1_init_p050 3 rfl
theorem dX1_init_7 : decode cX1_init 7 = .ok (.newarray .int, 2) := by decide +kernel
set_option maxRecDepth 20000 in
theorem dqX1_init_p051 : dz_rn 9 (cX1_init.data.toList.drop 9) [(3, 3), (0, 4), (2, 0)] = some [(9, .putfield 9, 3), (12, .aload_n 0, 1), (13, .bipush 48, 2)] := by decide +kernel
theorem dX1_init_9 : decode cX1_init 9 = .ok (.putfield 9, 3) := dz_at dqX1_init_p051 0 rfl
theorem dX1_init_12 : decode cX1_init 12 = .ok (.aload_n 0, 1) := dz_at dqX1_init_p051 1 rfl
theorem dX1_init_13 : decode cX1_init 13 = .ok (.bipush 48, 2) := dz_at dqX1_init_p051 2 rfl
theorem dX1_init_15 : decode cX1_init 15 = .ok (.newarray .int, 2) := by decide +kernel
set_option maxRecDepth 20000 in
theorem dqX1_init_p052 : dz_rn 17 (cX1_init.data.toList.drop 17) [(3, 3), (0, 4), (2, 0)] = some [(17, .putfield 15, 3), (20, .aload_n 0, 1), (21, .bipush 48, 2)] := by decide +kernel
theorem dX1_init_17 : decode cX1_init 17 = .ok (.putfield 15, 3) := dz_at dqX1_init_p052 0 rfl
theorem dX1_init_20 : decode cX1_init 20 = .ok (.aload_n 0, 1) := dz_at dqX1_init_p052 1 rfl
theorem dX1_init_21 : decode cX1_init 21 = .ok (.bipush 48, 2) := dz_at dqX1_init_p052 2 rfl
theorem dX1_init_23 : decode cX1_init 23 = .ok (.newarray .int, 2) := by decide +kernel
set_option maxRecDepth 20000 in
theorem dqX1_init_p053 : dz_rn 25 (cX1_init.data.toList.drop 25) [(3, 3), (0, 4), (2, 0)] = some [(25, .putfield 18, 3), (28, .aload_n 0, 1), (29, .bipush 48, 2)] := by decide +kernel
theorem dX1_init_25 : decode cX1_init 25 = .ok (.putfield 18, 3) := dz_at dqX1_init_p053 0 rfl
theorem dX1_init_28 : decode cX1_init 28 = .ok (.aload_n 0, 1) := dz_at dqX1_init_p053 1 rfl
theorem dX1_init_29 : decode cX1_init 29 = .ok (.bipush 48, 2) := dz_at dqX1_init_p053 2 rfl
theorem dX1_init_31 : decode cX1_init 31 = .ok (.newarray .int, 2) := by decide +kernel
set_option maxRecDepth 20000 in
theorem dqX1_init_p054 : dz_rn 33 (cX1_init.data.toList.drop 33) [(3, 3), (0, 4), (2, 0)] = some [(33, .putfield 21, 3), (36, .aload_n 0, 1), (37, .bipush 48, 2)] := by decide +kernel
theorem dX1_init_33 : decode cX1_init 33 = .ok (.putfield 21, 3) := dz_at dqX1_init_p054 0 rfl
theorem dX1_init_36 : decode cX1_init 36 = .ok (.aload_n 0, 1) := dz_at dqX1_init_p054 1 rfl
theorem dX1_init_37 : decode cX1_init 37 = .ok (.bipush 48, 2) := dz_at dqX1_init_p054 2 rfl
theorem dX1_init_39 : decode cX1_init 39 = .ok (.newarray .int, 2) := by decide +kernel
set_option maxRecDepth 20000 in
theorem dqX1_init_p055 : dz_rn 41 (cX1_init.data.toList.drop 41) [(3, 3), (0, 4), (2, 0)] = some [(41, .putfield 24, 3), (44, .aload_n 0, 1), (45, .bipush 48, 2)] := by decide +kernel
theorem dX1_init_41 : decode cX1_init 41 = .ok (.putfield 24, 3) := dz_at dqX1_init_p055 0 rfl
theorem dX1_init_44 : decode cX1_init 44 = .ok (.aload_n 0, 1) := dz_at dqX1_init_p055 1 rfl
theorem dX1_init_45 : decode cX1_init 45 = .ok (.bipush 48, 2) := dz_at dqX1_init_p055 2 rfl
theorem dX1_init_47 : decode cX1_init 47 = .ok (.newarray .int, 2) := by decide +kernel
set_option maxRecDepth 20000 in
theorem dqX1_init_p056 : dz_rn 49 (cX1_init.data.toList.drop 49) [(3, 3), (0, 4), (2, 0)] = some [(49, .putfield 27, 3), (52, .aload_n 0, 1), (53, .bipush 24, 2)] := by decide +kernel
theorem dX1_init_49 : decode cX1_init 49 = .ok (.putfield 27, 3) := dz_at dqX1_init_p056 0 rfl
theorem dX1_init_52 : decode cX1_init 52 = .ok (.aload_n 0, 1) := dz_at dqX1_init_p056 1 rfl
theorem dX1_init_53 : decode cX1_init 53 = .ok (.bipush 24, 2) := dz_at dqX1_init_p056 2 rfl
theorem dX1_init_55 : decode cX1_init 55 = .ok (.newarray .int, 2) := by decide +kernel
set_option maxRecDepth 20000 in
theorem dqX1_init_p057 : dz_rn 57 (cX1_init.data.toList.drop 57) [(3, 3), (0, 4), (2, 0)] = some [(57, .putfield 30, 3), (60, .aload_n 0, 1), (61, .bipush 8, 2)] := by decide +kernel
theorem dX1_init_57 : decode cX1_init 57 = .ok (.putfield 30, 3) := dz_at dqX1_init_p057 0 rfl
theorem dX1_init_60 : decode cX1_init 60 = .ok (.aload_n 0, 1) := dz_at dqX1_init_p057 1 rfl
theorem dX1_init_61 : decode cX1_init 61 = .ok (.bipush 8, 2) := dz_at dqX1_init_p057 2 rfl
theorem dX1_init_63 : decode cX1_init 63 = .ok (.newarray .int, 2) := by decide +kernel
set_option maxRecDepth 20000 in
theorem dqX1_init_p058 : dz_rn 65 (cX1_init.data.toList.drop 65) [(3, 3), (0, 4), (2, 0)] = some [(65, .putfield 33, 3), (68, .aload_n 0, 1), (69, .bipush 11, 2)] := by decide +kernel
theorem dX1_init_65 : decode cX1_init 65 = .ok (.putfield 33, 3) := dz_at dqX1_init_p058 0 rfl
theorem dX1_init_68 : decode cX1_init 68 = .ok (.aload_n 0, 1) := dz_at dqX1_init_p058 1 rfl
theorem dX1_init_69 : decode cX1_init 69 = .ok (.bipush 11, 2) := dz_at dqX1_init_p058 2 rfl
theorem dX1_init_71 : decode cX1_init 71 = .ok (.newarray .int, 2) := by decide +kernel
set_option maxRecDepth 20000 in
theorem dqX1_init_p059 : dz_rn 73 (cX1_init.data.toList.drop 73) [(3, 3), (0, 4), (0, 16), (3, 3), (0, 4), (2, 0), (3, 3), (0, 4), (0, 5), (3, 3), (0, 4), (3, 0), (0, 13), (3, 2)] = some [(73, .putfield 36, 3), (76, .aload_n 0, 1), (77, .iconst 4, 1), (78, .putfield 39, 3), (81, .aload_n 0, 1), (82, .bipush 50, 2), (84, .putfield 43, 3), (87, .aload_n 0, 1), (88, .aload_n 1, 1), (89, .putfield 46, 3), (92, .aload_n 0, 1), (93, .getfield 9, 3), (96, .iconst (-1), 1), (97, .invokestatic 50, 3)] := by decide +kernel
theorem dX1_init_73 : decode cX1_init 73 = .ok (.putfield 36, 3) := dz_at dqX1_init_p059 0 rfl
theorem dX1_init_76 : decode cX1_init 76 = .ok (.aload_n 0, 1) := dz_at dqX1_init_p059 1 rfl
theorem dX1_init_77 : decode cX1_init 77 = .ok (.iconst 4, 1) := dz_at dqX1_init_p059 2 rfl
theorem dX1_init_78 : decode cX1_init 78 = .ok (.putfield 39, 3) := dz_at dqX1_init_p059 3 rfl
theorem dX1_init_81 : decode cX1_init 81 = .ok (.aload_n 0, 1) := dz_at dqX1_init_p059 4 rfl
theorem dX1_init_82 : decode cX1_init 82 = .ok (.bipush 50, 2) := dz_at dqX1_init_p059 5 rfl
theorem dX1_init_84 : decode cX1_init 84 = .ok (.putfield 43, 3) := dz_at dqX1_init_p059 6 rfl
theorem dX1_init_87 : decode cX1_init 87 = .ok (.aload_n 0, 1) := dz_at dqX1_init_p059 7 rfl
theorem dX1_init_88 : decode cX1_init 88 = .ok (.aload_n 1, 1) := dz_at dqX1_init_p059 8 rfl
theorem dX1_init_89 : decode cX1_init 89 = .ok (.putfield 46, 3) := dz_at dqX1_init_p059 9 rfl
theorem dX1_init_92 : decode cX1_init 92 = .ok (.aload_n 0, 1) := dz_at dqX1_init_p059 10 rfl
theorem dX1_init_93 : decode cX1_init 93 = .ok (.getfield 9, 3) := dz_at dqX1_init_p059 11 rfl
theorem dX1_init_96 : decode cX1_init 96 = .ok (.iconst (-1), 1) := dz_at dqX1_init_p059 12 rfl
theorem dX1_init_97 : decode cX1_init 97 = .ok (.invokestatic 50, 3) := dz_at dqX1_init_p059 13 rfl
set_option maxRecDepth 20000 in
theorem dqX1_init_p0510 : dz_rn 100 (cX1_init.data.toList.drop 100) [(0, 4), (3, 0), (0, 13), (3, 2), (0, 4), (3, 0), (0, 13), (3, 2), (0, 4), (3, 0), (0, 13), (3, 2), (0, 4), (3, 0)] = some [(100, .aload_n 0, 1), (101, .getfield 18, 3), (104, .iconst (-1), 1), (105, .invokestatic 50, 3), (108, .aload_n 0, 1), (109, .getfield 24, 3), (112, .iconst (-1), 1), (113, .invokestatic 50, 3), (116, .aload_n 0, 1), (117, .getfield 30, 3), (120, .iconst (-1), 1), (121, .invokestatic 50, 3), (124, .aload_n 0, 1), (125, .getfield 33, 3)] := by decide +kernel
theorem dX1_init_100 : decode cX1_init 100 = .ok (.aload_n 0, 1) := dz_at dqX1_init_p0510 0 rfl
theorem dX1_init_101 : decode cX1_init 101 = .ok (.getfield 18, 3) := dz_at dqX1_init_p0510 1 rfl
theorem dX1_init_104 : decode cX1_init 104 = .ok (.iconst (-1), 1) := dz_at dqX1_init_p0510 2 rfl
theorem dX1_init_105 : decode cX1_init 105 = .ok (.invokestatic 50, 3) := dz_at dqX1_init_p0510 3 rfl
theorem dX1_init_108 : decode cX1_init 108 = .ok (.aload_n 0, 1) := dz_at dqX1_init_p0510 4 rfl
theorem dX1_init_109 : decode cX1_init 109 = .ok (.getfield 24, 3) := dz_at dqX1_init_p0510 5 rfl
theorem dX1_init_112 : decode cX1_init 112 = .ok (.iconst (-1), 1) := dz_at dqX1_init_p0510 6 rfl
theorem dX1_init_113 : decode cX1_init 113 = .ok (.invokestatic 50, 3) := dz_at dqX1_init_p0510 7 rfl
theorem dX1_init_116 : decode cX1_init 116 = .ok (.aload_n 0, 1) := dz_at dqX1_init_p0510 8 rfl
theorem dX1_init_117 : decode cX1_init 117 = .ok (.getfield 30, 3) := dz_at dqX1_init_p0510 9 rfl
theorem dX1_init_120 : decode cX1_init 120 = .ok (.iconst (-1), 1) := dz_at dqX1_init_p0510 10 rfl
theorem dX1_init_121 : decode cX1_init 121 = .ok (.invokestatic 50, 3) := dz_at dqX1_init_p0510 11 rfl
theorem dX1_init_124 : decode cX1_init 124 = .ok (.aload_n 0, 1) := dz_at dqX1_init_p0510 12 rfl
theorem dX1_init_125 : decode cX1_init 125 = .ok (.getfield 33, 3) := dz_at dqX1_init_p0510 13 rfl
set_option maxRecDepth 20000 in
theorem dqX1_init_p0511 : dz_rn 128 (cX1_init.data.toList.drop 128) [(0, 13), (3, 2), (0, 4), (3, 0), (0, 17), (3, 2), (0, 25)] = some [(128, .iconst (-1), 1), (129, .invokestatic 50, 3), (132, .aload_n 0, 1), (133, .getfield 36, 3), (136, .iconst 5, 1), (137, .invokestatic 50, 3), (140, .return_, 1)] := by decide +kernel
theorem dX1_init_128 : decode cX1_init 128 = .ok (.iconst (-1), 1) := dz_at dqX1_init_p0511 0 rfl
theorem dX1_init_129 : decode cX1_init 129 = .ok (.invokestatic 50, 3) := dz_at dqX1_init_p0511 1 rfl
theorem dX1_init_132 : decode cX1_init 132 = .ok (.aload_n 0, 1) := dz_at dqX1_init_p0511 2 rfl
theorem dX1_init_133 : decode cX1_init 133 = .ok (.getfield 36, 3) := dz_at dqX1_init_p0511 3 rfl
theorem dX1_init_136 : decode cX1_init 136 = .ok (.iconst 5, 1) := dz_at dqX1_init_p0511 4 rfl
theorem dX1_init_137 : decode cX1_init 137 = .ok (.invokestatic 50, 3) := dz_at dqX1_init_p0511 5 rfl
theorem dX1_init_140 : decode cX1_init 140 = .ok (.return_, 1) := dz_at dqX1_init_p0511 6 rfl
set_option maxRecDepth 20000 in
theorem ggX1_muchAlike_X2_shared : GoodIn wsX1_muchAlike wsX2_shared := goodIn_r _ [7, 8, 9, 10, 11, 12, 13, 14, 15, 29] rfl (by decide +kernel)
set_option maxRecDepth 20000 in
theorem gX1_muchAlike_X2_shared : GoodIn wsX1_muchAlike (wsV RX1 56 RX2 yX2_shared wsX2_shared) := goodIn_app (goodIn_of _ (by decide +kernel)) ggX1_muchAlike_X2_shared
set_option maxRecDepth 20000 in
theorem dqX1_muchAlike_p050 : dz_rn 0 (cX1_muchAlike.data.toList.drop 0) [(0, 4), (3, 0), (0, 1), (0, 2), (3, 1), (0, 4), (3, 0), (4, 3), (0, 9), (4, 0), (0, 8), (0, 12)] = some [(0, .aload_n 0, 1), (1, .getfield 46, 3), (4, .iload_n 1, 1), (5, .iload_n 2, 1), (6, .invokevirtual 56, 3), (9, .aload_n 0, 1), (10, .getfield 39, 3), (13, .if_icmp .lt 7, 3), (16, .iconst 1, 1), (17, .goto 4, 3), (20, .iconst 0, 1), (21, .ireturn, 1)] := by decide +kernel
theorem dX1_muchAlike_0 : decode cX1_muchAlike 0 = .ok (.aload_n 0, 1) := dz_at dqX1_muchAlike_p050 0 rfl
theorem dX1_muchAlike_1 : decode cX1_muchAlike 1 = .ok (.getfield 46, 3) := dz_at dqX1_muchAlike_p050 1 rfl
theorem dX1_muchAlike_4 : decode cX1_muchAlike 4 = .ok (.iload_n 1, 1) := dz_at dqX1_muchAlike_p050 2 rfl
theorem dX1_muchAlike_5 : decode cX1_muchAlike 5 = .ok (.iload_n 2, 1) := dz_at dqX1_muchAlike_p050 3 rfl
theorem dX1_muchAlike_6 : decode cX1_muchAlike 6 = .ok (.invokevirtual 56, 3) := dz_at dqX1_muchAlike_p050 4 rfl
theorem dX1_muchAlike_9 : decode cX1_muchAlike 9 = .ok (.aload_n 0, 1) := dz_at dqX1_muchAlike_p050 5 rfl
theorem dX1_muchAlike_10 : decode cX1_muchAlike 10 = .ok (.getfield 39, 3) := dz_at dqX1_muchAlike_p050 6 rfl
theorem dX1_muchAlike_13 : decode cX1_muchAlike 13 = .ok (.if_icmp .lt 7, 3) := dz_at dqX1_muchAlike_p050 7 rfl
theorem dX1_muchAlike_16 : decode cX1_muchAlike 16 = .ok (.iconst 1, 1) := dz_at dqX1_muchAlike_p050 8 rfl
theorem dX1_muchAlike_17 : decode cX1_muchAlike 17 = .ok (.goto 4, 3) := dz_at dqX1_muchAlike_p050 9 rfl
theorem dX1_muchAlike_20 : decode cX1_muchAlike 20 = .ok (.iconst 0, 1) := dz_at dqX1_muchAlike_p050 10 rfl
theorem dX1_muchAlike_21 : decode cX1_muchAlike 21 = .ok (.ireturn, 1) := dz_at dqX1_muchAlike_p050 11 rfl
set_option maxRecDepth 20000 in
theorem dqX1_cover_p050 : dz_rn 0 (cX1_cover.data.toList.drop 0) [(0, 4), (3, 0), (0, 1), (0, 10), (0, 21), (0, 3), (0, 13), (4, 1), (0, 4), (3, 0), (0, 3), (0, 13), (0, 22), (0, 4)] = some [(0, .aload_n 0, 1), (1, .getfield 9, 3), (4, .iload_n 1, 1), (5, .iaload, 1), (6, .istore_n 3, 1), (7, .iload_n 3, 1), (8, .iconst (-1), 1), (9, .if_icmp .eq 42, 3), (12, .aload_n 0, 1), (13, .getfield 30, 3), (16, .iload_n 3, 1), (17, .iconst (-1), 1), (18, .iastore, 1), (19, .aload_n 0, 1)] := by decide +kernel
theorem dX1_cover_0 : decode cX1_cover 0 = .ok (.aload_n 0, 1) := dz_at dqX1_cover_p050 0 rfl
theorem dX1_cover_1 : decode cX1_cover 1 = .ok (.getfield 9, 3) := dz_at dqX1_cover_p050 1 rfl
theorem dX1_cover_4 : decode cX1_cover 4 = .ok (.iload_n 1, 1) := dz_at dqX1_cover_p050 2 rfl
theorem dX1_cover_5 : decode cX1_cover 5 = .ok (.iaload, 1) := dz_at dqX1_cover_p050 3 rfl
theorem dX1_cover_6 : decode cX1_cover 6 = .ok (.istore_n 3, 1) := dz_at dqX1_cover_p050 4 rfl
theorem dX1_cover_7 : decode cX1_cover 7 = .ok (.iload_n 3, 1) := dz_at dqX1_cover_p050 5 rfl
theorem dX1_cover_8 : decode cX1_cover 8 = .ok (.iconst (-1), 1) := dz_at dqX1_cover_p050 6 rfl
theorem dX1_cover_9 : decode cX1_cover 9 = .ok (.if_icmp .eq 42, 3) := dz_at dqX1_cover_p050 7 rfl
theorem dX1_cover_12 : decode cX1_cover 12 = .ok (.aload_n 0, 1) := dz_at dqX1_cover_p050 8 rfl
theorem dX1_cover_13 : decode cX1_cover 13 = .ok (.getfield 30, 3) := dz_at dqX1_cover_p050 9 rfl
theorem dX1_cover_16 : decode cX1_cover 16 = .ok (.iload_n 3, 1) := dz_at dqX1_cover_p050 10 rfl
theorem dX1_cover_17 : decode cX1_cover 17 = .ok (.iconst (-1), 1) := dz_at dqX1_cover_p050 11 rfl
theorem dX1_cover_18 : decode cX1_cover 18 = .ok (.iastore, 1) := dz_at dqX1_cover_p050 12 rfl
theorem dX1_cover_19 : decode cX1_cover 19 = .ok (.aload_n 0, 1) := dz_at dqX1_cover_p050 13 rfl
set_option maxRecDepth 20000 in
theorem dqX1_cover_p051 : dz_rn 20 (cX1_cover.data.toList.drop 20) [(3, 0), (0, 1), (0, 4), (3, 0), (0, 1), (0, 10), (4, 12), (0, 3), (4, 0), (0, 13), (0, 22), (0, 4), (3, 0), (0, 1)] = some [(20, .getfield 18, 3), (23, .iload_n 1, 1), (24, .aload_n 0, 1), (25, .getfield 15, 3), (28, .iload_n 1, 1), (29, .iaload, 1), (30, .ifCond .le 7, 3), (33, .iload_n 3, 1), (34, .goto 4, 3), (37, .iconst (-1), 1), (38, .iastore, 1), (39, .aload_n 0, 1), (40, .getfield 21, 3), (43, .iload_n 1, 1)] := by decide +kernel
theorem dX1_cover_20 : decode cX1_cover 20 = .ok (.getfield 18, 3) := dz_at dqX1_cover_p051 0 rfl
theorem dX1_cover_23 : decode cX1_cover 23 = .ok (.iload_n 1, 1) := dz_at dqX1_cover_p051 1 rfl
theorem dX1_cover_24 : decode cX1_cover 24 = .ok (.aload_n 0, 1) := dz_at dqX1_cover_p051 2 rfl
theorem dX1_cover_25 : decode cX1_cover 25 = .ok (.getfield 15, 3) := dz_at dqX1_cover_p051 3 rfl
theorem dX1_cover_28 : decode cX1_cover 28 = .ok (.iload_n 1, 1) := dz_at dqX1_cover_p051 4 rfl
theorem dX1_cover_29 : decode cX1_cover 29 = .ok (.iaload, 1) := dz_at dqX1_cover_p051 5 rfl
theorem dX1_cover_30 : decode cX1_cover 30 = .ok (.ifCond .le 7, 3) := dz_at dqX1_cover_p051 6 rfl
theorem dX1_cover_33 : decode cX1_cover 33 = .ok (.iload_n 3, 1) := dz_at dqX1_cover_p051 7 rfl
theorem dX1_cover_34 : decode cX1_cover 34 = .ok (.goto 4, 3) := dz_at dqX1_cover_p051 8 rfl
theorem dX1_cover_37 : decode cX1_cover 37 = .ok (.iconst (-1), 1) := dz_at dqX1_cover_p051 9 rfl
theorem dX1_cover_38 : decode cX1_cover 38 = .ok (.iastore, 1) := dz_at dqX1_cover_p051 10 rfl
theorem dX1_cover_39 : decode cX1_cover 39 = .ok (.aload_n 0, 1) := dz_at dqX1_cover_p051 11 rfl
theorem dX1_cover_40 : decode cX1_cover 40 = .ok (.getfield 21, 3) := dz_at dqX1_cover_p051 12 rfl
theorem dX1_cover_43 : decode cX1_cover 43 = .ok (.iload_n 1, 1) := dz_at dqX1_cover_p051 13 rfl
set_option maxRecDepth 20000 in
theorem dqX1_cover_p052 : dz_rn 44 (cX1_cover.data.toList.drop 44) [(0, 4), (3, 0), (0, 1), (0, 10), (0, 22), (0, 4), (3, 0), (0, 1), (0, 2), (0, 22), (0, 4), (3, 0), (0, 1), (2, 0)] = some [(44, .aload_n 0, 1), (45, .getfield 15, 3), (48, .iload_n 1, 1), (49, .iaload, 1), (50, .iastore, 1), (51, .aload_n 0, 1), (52, .getfield 9, 3), (55, .iload_n 1, 1), (56, .iload_n 2, 1), (57, .iastore, 1), (58, .aload_n 0, 1), (59, .getfield 15, 3), (62, .iload_n 1, 1), (63, .bipush 100, 2)] := by decide +kernel
theorem dX1_cover_44 : decode cX1_cover 44 = .ok (.aload_n 0, 1) := dz_at dqX1_cover_p052 0 rfl
theorem dX1_cover_45 : decode cX1_cover 45 = .ok (.getfield 15, 3) := dz_at dqX1_cover_p052 1 rfl
theorem dX1_cover_48 : decode cX1_cover 48 = .ok (.iload_n 1, 1) := dz_at dqX1_cover_p052 2 rfl
theorem dX1_cover_49 : decode cX1_cover 49 = .ok (.iaload, 1) := dz_at dqX1_cover_p052 3 rfl
theorem dX1_cover_50 : decode cX1_cover 50 = .ok (.iastore, 1) := dz_at dqX1_cover_p052 4 rfl
theorem dX1_cover_51 : decode cX1_cover 51 = .ok (.aload_n 0, 1) := dz_at dqX1_cover_p052 5 rfl
theorem dX1_cover_52 : decode cX1_cover 52 = .ok (.getfield 9, 3) := dz_at dqX1_cover_p052 6 rfl
theorem dX1_cover_55 : decode cX1_cover 55 = .ok (.iload_n 1, 1) := dz_at dqX1_cover_p052 7 rfl
theorem dX1_cover_56 : decode cX1_cover 56 = .ok (.iload_n 2, 1) := dz_at dqX1_cover_p052 8 rfl
theorem dX1_cover_57 : decode cX1_cover 57 = .ok (.iastore, 1) := dz_at dqX1_cover_p052 9 rfl
theorem dX1_cover_58 : decode cX1_cover 58 = .ok (.aload_n 0, 1) := dz_at dqX1_cover_p052 10 rfl
theorem dX1_cover_59 : decode cX1_cover 59 = .ok (.getfield 15, 3) := dz_at dqX1_cover_p052 11 rfl
theorem dX1_cover_62 : decode cX1_cover 62 = .ok (.iload_n 1, 1) := dz_at dqX1_cover_p052 12 rfl
theorem dX1_cover_63 : decode cX1_cover 63 = .ok (.bipush 100, 2) := dz_at dqX1_cover_p052 13 rfl
set_option maxRecDepth 20000 in
theorem dqX1_cover_p053 : dz_rn 65 (cX1_cover.data.toList.drop 65) [(0, 22), (0, 4), (3, 0), (0, 1), (0, 4), (3, 0), (0, 22), (0, 4), (3, 0), (0, 2), (0, 1), (0, 22), (0, 25)] = some [(65, .iastore, 1), (66, .aload_n 0, 1), (67, .getfield 24, 3), (70, .iload_n 1, 1), (71, .aload_n 0, 1), (72, .getfield 62, 3), (75, .iastore, 1), (76, .aload_n 0, 1), (77, .getfield 30, 3), (80, .iload_n 2, 1), (81, .iload_n 1, 1), (82, .iastore, 1), (83, .return_, 1)] := by decide +kernel
theorem dX1_cover_65 : decode cX1_cover 65 = .ok (.iastore, 1) := dz_at dqX1_cover_p053 0 rfl
theorem dX1_cover_66 : decode cX1_cover 66 = .ok (.aload_n 0, 1) := dz_at dqX1_cover_p053 1 rfl
theorem dX1_cover_67 : decode cX1_cover 67 = .ok (.getfield 24, 3) := dz_at dqX1_cover_p053 2 rfl
theorem dX1_cover_70 : decode cX1_cover 70 = .ok (.iload_n 1, 1) := dz_at dqX1_cover_p053 3 rfl
theorem dX1_cover_71 : decode cX1_cover 71 = .ok (.aload_n 0, 1) := dz_at dqX1_cover_p053 4 rfl
theorem dX1_cover_72 : decode cX1_cover 72 = .ok (.getfield 62, 3) := dz_at dqX1_cover_p053 5 rfl
theorem dX1_cover_75 : decode cX1_cover 75 = .ok (.iastore, 1) := dz_at dqX1_cover_p053 6 rfl
theorem dX1_cover_76 : decode cX1_cover 76 = .ok (.aload_n 0, 1) := dz_at dqX1_cover_p053 7 rfl
theorem dX1_cover_77 : decode cX1_cover 77 = .ok (.getfield 30, 3) := dz_at dqX1_cover_p053 8 rfl
theorem dX1_cover_80 : decode cX1_cover 80 = .ok (.iload_n 2, 1) := dz_at dqX1_cover_p053 9 rfl
theorem dX1_cover_81 : decode cX1_cover 81 = .ok (.iload_n 1, 1) := dz_at dqX1_cover_p053 10 rfl
theorem dX1_cover_82 : decode cX1_cover 82 = .ok (.iastore, 1) := dz_at dqX1_cover_p053 11 rfl
theorem dX1_cover_83 : decode cX1_cover 83 = .ok (.return_, 1) := dz_at dqX1_cover_p053 12 rfl
set_option maxRecDepth 20000 in
theorem dqX1_takeOff_p050 : dz_rn 0 (cX1_takeOff.data.toList.drop 0) [(0, 4), (3, 0), (0, 1), (0, 10), (0, 20), (0, 2), (0, 13), (4, 1), (0, 4), (3, 0), (0, 2), (0, 13), (0, 22), (0, 4)] = some [(0, .aload_n 0, 1), (1, .getfield 9, 3), (4, .iload_n 1, 1), (5, .iaload, 1), (6, .istore_n 2, 1), (7, .iload_n 2, 1), (8, .iconst (-1), 1), (9, .if_icmp .eq 10, 3), (12, .aload_n 0, 1), (13, .getfield 30, 3), (16, .iload_n 2, 1), (17, .iconst (-1), 1), (18, .iastore, 1), (19, .aload_n 0, 1)] := by decide +kernel
theorem dX1_takeOff_0 : decode cX1_takeOff 0 = .ok (.aload_n 0, 1) := dz_at dqX1_takeOff_p050 0 rfl
theorem dX1_takeOff_1 : decode cX1_takeOff 1 = .ok (.getfield 9, 3) := dz_at dqX1_takeOff_p050 1 rfl
theorem dX1_takeOff_4 : decode cX1_takeOff 4 = .ok (.iload_n 1, 1) := dz_at dqX1_takeOff_p050 2 rfl
theorem dX1_takeOff_5 : decode cX1_takeOff 5 = .ok (.iaload, 1) := dz_at dqX1_takeOff_p050 3 rfl
theorem dX1_takeOff_6 : decode cX1_takeOff 6 = .ok (.istore_n 2, 1) := dz_at dqX1_takeOff_p050 4 rfl
theorem dX1_takeOff_7 : decode cX1_takeOff 7 = .ok (.iload_n 2, 1) := dz_at dqX1_takeOff_p050 5 rfl
theorem dX1_takeOff_8 : decode cX1_takeOff 8 = .ok (.iconst (-1), 1) := dz_at dqX1_takeOff_p050 6 rfl
theorem dX1_takeOff_9 : decode cX1_takeOff 9 = .ok (.if_icmp .eq 10, 3) := dz_at dqX1_takeOff_p050 7 rfl
theorem dX1_takeOff_12 : decode cX1_takeOff 12 = .ok (.aload_n 0, 1) := dz_at dqX1_takeOff_p050 8 rfl
theorem dX1_takeOff_13 : decode cX1_takeOff 13 = .ok (.getfield 30, 3) := dz_at dqX1_takeOff_p050 9 rfl
theorem dX1_takeOff_16 : decode cX1_takeOff 16 = .ok (.iload_n 2, 1) := dz_at dqX1_takeOff_p050 10 rfl
theorem dX1_takeOff_17 : decode cX1_takeOff 17 = .ok (.iconst (-1), 1) := dz_at dqX1_takeOff_p050 11 rfl
theorem dX1_takeOff_18 : decode cX1_takeOff 18 = .ok (.iastore, 1) := dz_at dqX1_takeOff_p050 12 rfl
theorem dX1_takeOff_19 : decode cX1_takeOff 19 = .ok (.aload_n 0, 1) := dz_at dqX1_takeOff_p050 13 rfl
set_option maxRecDepth 20000 in
theorem dqX1_takeOff_p051 : dz_rn 20 (cX1_takeOff.data.toList.drop 20) [(3, 0), (0, 1), (0, 13), (0, 22), (0, 4), (3, 0), (0, 1), (0, 13), (0, 22), (0, 25)] = some [(20, .getfield 9, 3), (23, .iload_n 1, 1), (24, .iconst (-1), 1), (25, .iastore, 1), (26, .aload_n 0, 1), (27, .getfield 18, 3), (30, .iload_n 1, 1), (31, .iconst (-1), 1), (32, .iastore, 1), (33, .return_, 1)] := by decide +kernel
theorem dX1_takeOff_20 : decode cX1_takeOff 20 = .ok (.getfield 9, 3) := dz_at dqX1_takeOff_p051 0 rfl
theorem dX1_takeOff_23 : decode cX1_takeOff 23 = .ok (.iload_n 1, 1) := dz_at dqX1_takeOff_p051 1 rfl
theorem dX1_takeOff_24 : decode cX1_takeOff 24 = .ok (.iconst (-1), 1) := dz_at dqX1_takeOff_p051 2 rfl
theorem dX1_takeOff_25 : decode cX1_takeOff 25 = .ok (.iastore, 1) := dz_at dqX1_takeOff_p051 3 rfl
theorem dX1_takeOff_26 : decode cX1_takeOff 26 = .ok (.aload_n 0, 1) := dz_at dqX1_takeOff_p051 4 rfl
theorem dX1_takeOff_27 : decode cX1_takeOff 27 = .ok (.getfield 18, 3) := dz_at dqX1_takeOff_p051 5 rfl
theorem dX1_takeOff_30 : decode cX1_takeOff 30 = .ok (.iload_n 1, 1) := dz_at dqX1_takeOff_p051 6 rfl
theorem dX1_takeOff_31 : decode cX1_takeOff 31 = .ok (.iconst (-1), 1) := dz_at dqX1_takeOff_p051 7 rfl
theorem dX1_takeOff_32 : decode cX1_takeOff 32 = .ok (.iastore, 1) := dz_at dqX1_takeOff_p051 8 rfl
theorem dX1_takeOff_33 : decode cX1_takeOff 33 = .ok (.return_, 1) := dz_at dqX1_takeOff_p051 9 rfl
set_option maxRecDepth 20000 in
theorem ggX1_passDays_X1_countCrowds : GoodIn wsX1_passDays wsX1_countCrowds := goodIn_r _ [8, 9, 10, 11, 12, 7, 13, 1, 14, 15, 16, 17, 18, 19, 20, 21, 22, 23, 24, 25, 26, 27, 28, 29, 30, 31, 32, 57, 58, 59, 60, 61, 62, 63, 64, 65, 66, 67, 68, 69, 70] rfl (by decide +kernel)
set_option maxRecDepth 20000 in
theorem gX1_passDays_X1_countCrowds : GoodIn wsX1_passDays (wsV RX1 65 RX1 yX1_countCrowds wsX1_countCrowds) := goodIn_app (goodIn_of _ (by decide +kernel)) ggX1_passDays_X1_countCrowds
set_option maxRecDepth 20000 in
theorem ggX1_passDays_X1_strengthBehind : GoodIn wsX1_passDays wsX1_strengthBehind := goodIn_r _ [36, 2, 9, 37, 38, 39, 7, 40, 41, 42, 43, 44, 45, 46, 47, 48, 49, 50, 57, 58, 59, 60, 61, 62, 63, 64, 65, 66, 67, 68, 69] rfl (by decide +kernel)
set_option maxRecDepth 20000 in
theorem gX1_passDays_X1_strengthBehind : GoodIn wsX1_passDays (wsV RX1 68 RX1 yX1_strengthBehind wsX1_strengthBehind) := goodIn_app (goodIn_of _ (by decide +kernel)) ggX1_passDays_X1_strengthBehind
set_option maxRecDepth 20000 in
theorem ggX1_passDays_X1_fadeGhost : GoodIn wsX1_passDays wsX1_fadeGhost := goodIn_r _ [54, 55, 56, 42, 43, 44, 7, 45, 46, 47, 48, 49, 50, 57, 58, 59, 60, 61, 62, 63, 64, 65, 66, 67, 68, 69] rfl (by decide +kernel)
set_option maxRecDepth 20000 in
theorem gX1_passDays_X1_fadeGhost : GoodIn wsX1_passDays (wsV RX1 72 RX1 yX1_fadeGhost wsX1_fadeGhost) := goodIn_app (goodIn_of _ (by decide +kernel)) ggX1_passDays_X1_fadeGhost
set_option maxRecDepth 20000 in
theorem dqX1_passDays_p050 : dz_rn 0 (cX1_passDays.data.toList.drop 0) [(0, 4), (3, 1), (0, 8), (0, 20), (0, 2), (2, 0), (4, 4), (0, 4), (3, 0), (0, 2), (0, 10), (0, 13), (4, 1), (0, 4)] = some [(0, .aload_n 0, 1), (1, .invokevirtual 65, 3), (4, .iconst 0, 1), (5, .istore_n 2, 1), (6, .iload_n 2, 1), (7, .bipush 48, 2), (9, .if_icmp .ge 38, 3), (12, .aload_n 0, 1), (13, .getfield 9, 3), (16, .iload_n 2, 1), (17, .iaload, 1), (18, .iconst (-1), 1), (19, .if_icmp .eq 16, 3), (22, .aload_n 0, 1)] := by decide +kernel
theorem dX1_passDays_0 : decode cX1_passDays 0 = .ok (.aload_n 0, 1) := dz_at dqX1_passDays_p050 0 rfl
theorem dX1_passDays_1 : decode cX1_passDays 1 = .ok (.invokevirtual 65, 3) := dz_at dqX1_passDays_p050 1 rfl
theorem dX1_passDays_4 : decode cX1_passDays 4 = .ok (.iconst 0, 1) := dz_at dqX1_passDays_p050 2 rfl
theorem dX1_passDays_5 : decode cX1_passDays 5 = .ok (.istore_n 2, 1) := dz_at dqX1_passDays_p050 3 rfl
theorem dX1_passDays_6 : decode cX1_passDays 6 = .ok (.iload_n 2, 1) := dz_at dqX1_passDays_p050 4 rfl
theorem dX1_passDays_7 : decode cX1_passDays 7 = .ok (.bipush 48, 2) := dz_at dqX1_passDays_p050 5 rfl
theorem dX1_passDays_9 : decode cX1_passDays 9 = .ok (.if_icmp .ge 38, 3) := dz_at dqX1_passDays_p050 6 rfl
theorem dX1_passDays_12 : decode cX1_passDays 12 = .ok (.aload_n 0, 1) := dz_at dqX1_passDays_p050 7 rfl
theorem dX1_passDays_13 : decode cX1_passDays 13 = .ok (.getfield 9, 3) := dz_at dqX1_passDays_p050 8 rfl
theorem dX1_passDays_16 : decode cX1_passDays 16 = .ok (.iload_n 2, 1) := dz_at dqX1_passDays_p050 9 rfl
theorem dX1_passDays_17 : decode cX1_passDays 17 = .ok (.iaload, 1) := dz_at dqX1_passDays_p050 10 rfl
theorem dX1_passDays_18 : decode cX1_passDays 18 = .ok (.iconst (-1), 1) := dz_at dqX1_passDays_p050 11 rfl
theorem dX1_passDays_19 : decode cX1_passDays 19 = .ok (.if_icmp .eq 16, 3) := dz_at dqX1_passDays_p050 12 rfl
theorem dX1_passDays_22 : decode cX1_passDays 22 = .ok (.aload_n 0, 1) := dz_at dqX1_passDays_p050 13 rfl
set_option maxRecDepth 20000 in
theorem dqX1_passDays_p051 : dz_rn 23 (cX1_passDays.data.toList.drop 23) [(3, 0), (0, 2), (0, 4), (0, 2), (0, 1), (0, 8), (3, 1), (0, 22), (0, 4), (0, 2), (0, 1), (3, 1), (5, 0), (4, 0)] = some [(23, .getfield 15, 3), (26, .iload_n 2, 1), (27, .aload_n 0, 1), (28, .iload_n 2, 1), (29, .iload_n 1, 1), (30, .iconst 0, 1), (31, .invokevirtual 68, 3), (34, .iastore, 1), (35, .aload_n 0, 1), (36, .iload_n 2, 1), (37, .iload_n 1, 1), (38, .invokevirtual 72, 3), (41, .iinc 2 1, 3), (44, .goto (-38), 3)] := by decide +kernel
theorem dX1_passDays_23 : decode cX1_passDays 23 = .ok (.getfield 15, 3) := dz_at dqX1_passDays_p051 0 rfl
theorem dX1_passDays_26 : decode cX1_passDays 26 = .ok (.iload_n 2, 1) := dz_at dqX1_passDays_p051 1 rfl
theorem dX1_passDays_27 : decode cX1_passDays 27 = .ok (.aload_n 0, 1) := dz_at dqX1_passDays_p051 2 rfl
theorem dX1_passDays_28 : decode cX1_passDays 28 = .ok (.iload_n 2, 1) := dz_at dqX1_passDays_p051 3 rfl
theorem dX1_passDays_29 : decode cX1_passDays 29 = .ok (.iload_n 1, 1) := dz_at dqX1_passDays_p051 4 rfl
theorem dX1_passDays_30 : decode cX1_passDays 30 = .ok (.iconst 0, 1) := dz_at dqX1_passDays_p051 5 rfl
theorem dX1_passDays_31 : decode cX1_passDays 31 = .ok (.invokevirtual 68, 3) := dz_at dqX1_passDays_p051 6 rfl
theorem dX1_passDays_34 : decode cX1_passDays 34 = .ok (.iastore, 1) := dz_at dqX1_passDays_p051 7 rfl
theorem dX1_passDays_35 : decode cX1_passDays 35 = .ok (.aload_n 0, 1) := dz_at dqX1_passDays_p051 8 rfl
theorem dX1_passDays_36 : decode cX1_passDays 36 = .ok (.iload_n 2, 1) := dz_at dqX1_passDays_p051 9 rfl
theorem dX1_passDays_37 : decode cX1_passDays 37 = .ok (.iload_n 1, 1) := dz_at dqX1_passDays_p051 10 rfl
theorem dX1_passDays_38 : decode cX1_passDays 38 = .ok (.invokevirtual 72, 3) := dz_at dqX1_passDays_p051 11 rfl
theorem dX1_passDays_41 : decode cX1_passDays 41 = .ok (.iinc 2 1, 3) := dz_at dqX1_passDays_p051 12 rfl
theorem dX1_passDays_44 : decode cX1_passDays 44 = .ok (.goto (-38), 3) := dz_at dqX1_passDays_p051 13 rfl
set_option maxRecDepth 20000 in
theorem dqX1_passDays_p052 : dz_rn 47 (cX1_passDays.data.toList.drop 47) [(0, 4), (0, 28), (3, 0), (0, 1), (0, 11), (3, 3), (0, 25)] = some [(47, .aload_n 0, 1), (48, .dup, 1), (49, .getfield 62, 3), (52, .iload_n 1, 1), (53, .iadd, 1), (54, .putfield 62, 3), (57, .return_, 1)] := by decide +kernel
theorem dX1_passDays_47 : decode cX1_passDays 47 = .ok (.aload_n 0, 1) := dz_at dqX1_passDays_p052 0 rfl
theorem dX1_passDays_48 : decode cX1_passDays 48 = .ok (.dup, 1) := dz_at dqX1_passDays_p052 1 rfl
theorem dX1_passDays_49 : decode cX1_passDays 49 = .ok (.getfield 62, 3) := dz_at dqX1_passDays_p052 2 rfl
theorem dX1_passDays_52 : decode cX1_passDays 52 = .ok (.iload_n 1, 1) := dz_at dqX1_passDays_p052 3 rfl
theorem dX1_passDays_53 : decode cX1_passDays 53 = .ok (.iadd, 1) := dz_at dqX1_passDays_p052 4 rfl
theorem dX1_passDays_54 : decode cX1_passDays 54 = .ok (.putfield 62, 3) := dz_at dqX1_passDays_p052 5 rfl
theorem dX1_passDays_57 : decode cX1_passDays 57 = .ok (.return_, 1) := dz_at dqX1_passDays_p052 6 rfl
set_option maxRecDepth 20000 in
theorem ggX1_fadeGhost_X1_fallen : GoodIn wsX1_fadeGhost wsX1_fallen := goodIn_r _ [7, 8, 9, 10, 11, 12, 13, 14, 15, 16, 17, 18, 19, 20, 21, 22, 23, 24, 25] rfl (by decide +kernel)
set_option maxRecDepth 20000 in
theorem gX1_fadeGhost_X1_fallen : GoodIn wsX1_fadeGhost (wsV RX1 76 RX1 yX1_fallen wsX1_fallen) := goodIn_app (goodIn_of _ (by decide +kernel)) ggX1_fadeGhost_X1_fallen
set_option maxRecDepth 20000 in
theorem dqX1_fadeGhost_p050 : dz_rn 0 (cX1_fadeGhost.data.toList.drop 0) [(0, 8), (0, 21), (0, 3), (0, 2), (4, 4), (0, 4), (3, 0), (0, 1), (0, 10), (0, 13), (4, 1), (0, 4), (3, 0), (0, 1)] = some [(0, .iconst 0, 1), (1, .istore_n 3, 1), (2, .iload_n 3, 1), (3, .iload_n 2, 1), (4, .if_icmp .ge 52, 3), (7, .aload_n 0, 1), (8, .getfield 18, 3), (11, .iload_n 1, 1), (12, .iaload, 1), (13, .iconst (-1), 1), (14, .if_icmp .eq 42, 3), (17, .aload_n 0, 1), (18, .getfield 21, 3), (21, .iload_n 1, 1)] := by decide +kernel
theorem dX1_fadeGhost_0 : decode cX1_fadeGhost 0 = .ok (.iconst 0, 1) := dz_at dqX1_fadeGhost_p050 0 rfl
theorem dX1_fadeGhost_1 : decode cX1_fadeGhost 1 = .ok (.istore_n 3, 1) := dz_at dqX1_fadeGhost_p050 1 rfl
theorem dX1_fadeGhost_2 : decode cX1_fadeGhost 2 = .ok (.iload_n 3, 1) := dz_at dqX1_fadeGhost_p050 2 rfl
theorem dX1_fadeGhost_3 : decode cX1_fadeGhost 3 = .ok (.iload_n 2, 1) := dz_at dqX1_fadeGhost_p050 3 rfl
theorem dX1_fadeGhost_4 : decode cX1_fadeGhost 4 = .ok (.if_icmp .ge 52, 3) := dz_at dqX1_fadeGhost_p050 4 rfl
theorem dX1_fadeGhost_7 : decode cX1_fadeGhost 7 = .ok (.aload_n 0, 1) := dz_at dqX1_fadeGhost_p050 5 rfl
theorem dX1_fadeGhost_8 : decode cX1_fadeGhost 8 = .ok (.getfield 18, 3) := dz_at dqX1_fadeGhost_p050 6 rfl
theorem dX1_fadeGhost_11 : decode cX1_fadeGhost 11 = .ok (.iload_n 1, 1) := dz_at dqX1_fadeGhost_p050 7 rfl
theorem dX1_fadeGhost_12 : decode cX1_fadeGhost 12 = .ok (.iaload, 1) := dz_at dqX1_fadeGhost_p050 8 rfl
theorem dX1_fadeGhost_13 : decode cX1_fadeGhost 13 = .ok (.iconst (-1), 1) := dz_at dqX1_fadeGhost_p050 9 rfl
theorem dX1_fadeGhost_14 : decode cX1_fadeGhost 14 = .ok (.if_icmp .eq 42, 3) := dz_at dqX1_fadeGhost_p050 10 rfl
theorem dX1_fadeGhost_17 : decode cX1_fadeGhost 17 = .ok (.aload_n 0, 1) := dz_at dqX1_fadeGhost_p050 11 rfl
theorem dX1_fadeGhost_18 : decode cX1_fadeGhost 18 = .ok (.getfield 21, 3) := dz_at dqX1_fadeGhost_p050 12 rfl
theorem dX1_fadeGhost_21 : decode cX1_fadeGhost 21 = .ok (.iload_n 1, 1) := dz_at dqX1_fadeGhost_p050 13 rfl
set_option maxRecDepth 20000 in
theorem dqX1_fadeGhost_p051 : dz_rn 22 (cX1_fadeGhost.data.toList.drop 22) [(0, 4), (0, 4), (3, 0), (0, 1), (0, 10), (0, 8), (3, 1), (0, 22), (0, 4), (3, 0), (0, 1), (0, 10), (4, 8), (0, 4)] = some [(22, .aload_n 0, 1), (23, .aload_n 0, 1), (24, .getfield 21, 3), (27, .iload_n 1, 1), (28, .iaload, 1), (29, .iconst 0, 1), (30, .invokevirtual 76, 3), (33, .iastore, 1), (34, .aload_n 0, 1), (35, .getfield 21, 3), (38, .iload_n 1, 1), (39, .iaload, 1), (40, .ifCond .ne 10, 3), (43, .aload_n 0, 1)] := by decide +kernel
theorem dX1_fadeGhost_22 : decode cX1_fadeGhost 22 = .ok (.aload_n 0, 1) := dz_at dqX1_fadeGhost_p051 0 rfl
theorem dX1_fadeGhost_23 : decode cX1_fadeGhost 23 = .ok (.aload_n 0, 1) := dz_at dqX1_fadeGhost_p051 1 rfl
theorem dX1_fadeGhost_24 : decode cX1_fadeGhost 24 = .ok (.getfield 21, 3) := dz_at dqX1_fadeGhost_p051 2 rfl
theorem dX1_fadeGhost_27 : decode cX1_fadeGhost 27 = .ok (.iload_n 1, 1) := dz_at dqX1_fadeGhost_p051 3 rfl
theorem dX1_fadeGhost_28 : decode cX1_fadeGhost 28 = .ok (.iaload, 1) := dz_at dqX1_fadeGhost_p051 4 rfl
theorem dX1_fadeGhost_29 : decode cX1_fadeGhost 29 = .ok (.iconst 0, 1) := dz_at dqX1_fadeGhost_p051 5 rfl
theorem dX1_fadeGhost_30 : decode cX1_fadeGhost 30 = .ok (.invokevirtual 76, 3) := dz_at dqX1_fadeGhost_p051 6 rfl
theorem dX1_fadeGhost_33 : decode cX1_fadeGhost 33 = .ok (.iastore, 1) := dz_at dqX1_fadeGhost_p051 7 rfl
theorem dX1_fadeGhost_34 : decode cX1_fadeGhost 34 = .ok (.aload_n 0, 1) := dz_at dqX1_fadeGhost_p051 8 rfl
theorem dX1_fadeGhost_35 : decode cX1_fadeGhost 35 = .ok (.getfield 21, 3) := dz_at dqX1_fadeGhost_p051 9 rfl
theorem dX1_fadeGhost_38 : decode cX1_fadeGhost 38 = .ok (.iload_n 1, 1) := dz_at dqX1_fadeGhost_p051 10 rfl
theorem dX1_fadeGhost_39 : decode cX1_fadeGhost 39 = .ok (.iaload, 1) := dz_at dqX1_fadeGhost_p051 11 rfl
theorem dX1_fadeGhost_40 : decode cX1_fadeGhost 40 = .ok (.ifCond .ne 10, 3) := dz_at dqX1_fadeGhost_p051 12 rfl
theorem dX1_fadeGhost_43 : decode cX1_fadeGhost 43 = .ok (.aload_n 0, 1) := dz_at dqX1_fadeGhost_p051 13 rfl
set_option maxRecDepth 20000 in
theorem dqX1_fadeGhost_p052 : dz_rn 44 (cX1_fadeGhost.data.toList.drop 44) [(3, 0), (0, 1), (0, 13), (0, 22), (5, 0), (4, 0), (0, 25)] = some [(44, .getfield 18, 3), (47, .iload_n 1, 1), (48, .iconst (-1), 1), (49, .iastore, 1), (50, .iinc 3 1, 3), (53, .goto (-51), 3), (56, .return_, 1)] := by decide +kernel
theorem dX1_fadeGhost_44 : decode cX1_fadeGhost 44 = .ok (.getfield 18, 3) := dz_at dqX1_fadeGhost_p052 0 rfl
theorem dX1_fadeGhost_47 : decode cX1_fadeGhost 47 = .ok (.iload_n 1, 1) := dz_at dqX1_fadeGhost_p052 1 rfl
theorem dX1_fadeGhost_48 : decode cX1_fadeGhost 48 = .ok (.iconst (-1), 1) := dz_at dqX1_fadeGhost_p052 2 rfl
theorem dX1_fadeGhost_49 : decode cX1_fadeGhost 49 = .ok (.iastore, 1) := dz_at dqX1_fadeGhost_p052 3 rfl
theorem dX1_fadeGhost_50 : decode cX1_fadeGhost 50 = .ok (.iinc 3 1, 3) := dz_at dqX1_fadeGhost_p052 4 rfl
theorem dX1_fadeGhost_53 : decode cX1_fadeGhost 53 = .ok (.goto (-51), 3) := dz_at dqX1_fadeGhost_p052 5 rfl
theorem dX1_fadeGhost_56 : decode cX1_fadeGhost 56 = .ok (.return_, 1) := dz_at dqX1_fadeGhost_p052 6 rfl
set_option maxRecDepth 20000 in
theorem ggX1_countCrowds_X1_crowds : GoodIn wsX1_countCrowds wsX1_crowds := goodIn_r _ [6, 7, 8, 9, 10, 5, 11, 12, 13, 14, 15, 16, 17, 18, 19, 20, 21, 22, 23, 24, 25, 26, 27, 28, 29, 30, 31, 32, 33, 34, 35, 36, 37, 38, 39, 40] rfl (by decide +kernel)
set_option maxRecDepth 20000 in
theorem gX1_countCrowds_X1_crowds : GoodIn wsX1_countCrowds (wsV RX1 79 RX1 yX1_crowds wsX1_crowds) := goodIn_app (goodIn_of _ (by decide +kernel)) ggX1_countCrowds_X1_crowds
set_option maxRecDepth 20000 in
theorem dqX1_countCrowds_p050 : dz_rn 0 (cX1_countCrowds.data.toList.drop 0) [(0, 8), (0, 19), (0, 1), (2, 0), (4, 4), (0, 4), (3, 0), (0, 1), (0, 8), (0, 22), (0, 1), (0, 1), (2, 0), (0, 30)] = some [(0, .iconst 0, 1), (1, .istore_n 1, 1), (2, .iload_n 1, 1), (3, .bipush 48, 2), (5, .if_icmp .ge 58, 3), (8, .aload_n 0, 1), (9, .getfield 27, 3), (12, .iload_n 1, 1), (13, .iconst 0, 1), (14, .iastore, 1), (15, .iload_n 1, 1), (16, .iload_n 1, 1), (17, .bipush 6, 2), (19, .irem, 1)] := by decide +kernel
theorem dX1_countCrowds_0 : decode cX1_countCrowds 0 = .ok (.iconst 0, 1) := dz_at dqX1_countCrowds_p050 0 rfl
theorem dX1_countCrowds_1 : decode cX1_countCrowds 1 = .ok (.istore_n 1, 1) := dz_at dqX1_countCrowds_p050 1 rfl
theorem dX1_countCrowds_2 : decode cX1_countCrowds 2 = .ok (.iload_n 1, 1) := dz_at dqX1_countCrowds_p050 2 rfl
theorem dX1_countCrowds_3 : decode cX1_countCrowds 3 = .ok (.bipush 48, 2) := dz_at dqX1_countCrowds_p050 3 rfl
theorem dX1_countCrowds_5 : decode cX1_countCrowds 5 = .ok (.if_icmp .ge 58, 3) := dz_at dqX1_countCrowds_p050 4 rfl
theorem dX1_countCrowds_8 : decode cX1_countCrowds 8 = .ok (.aload_n 0, 1) := dz_at dqX1_countCrowds_p050 5 rfl
theorem dX1_countCrowds_9 : decode cX1_countCrowds 9 = .ok (.getfield 27, 3) := dz_at dqX1_countCrowds_p050 6 rfl
theorem dX1_countCrowds_12 : decode cX1_countCrowds 12 = .ok (.iload_n 1, 1) := dz_at dqX1_countCrowds_p050 7 rfl
theorem dX1_countCrowds_13 : decode cX1_countCrowds 13 = .ok (.iconst 0, 1) := dz_at dqX1_countCrowds_p050 8 rfl
theorem dX1_countCrowds_14 : decode cX1_countCrowds 14 = .ok (.iastore, 1) := dz_at dqX1_countCrowds_p050 9 rfl
theorem dX1_countCrowds_15 : decode cX1_countCrowds 15 = .ok (.iload_n 1, 1) := dz_at dqX1_countCrowds_p050 10 rfl
theorem dX1_countCrowds_16 : decode cX1_countCrowds 16 = .ok (.iload_n 1, 1) := dz_at dqX1_countCrowds_p050 11 rfl
theorem dX1_countCrowds_17 : decode cX1_countCrowds 17 = .ok (.bipush 6, 2) := dz_at dqX1_countCrowds_p050 12 rfl
theorem dX1_countCrowds_19 : decode cX1_countCrowds 19 = .ok (.irem, 1) := dz_at dqX1_countCrowds_p050 13 rfl
set_option maxRecDepth 20000 in
theorem dqX1_countCrowds_p051 : dz_rn 20 (cX1_countCrowds.data.toList.drop 20) [(0, 26), (0, 20), (0, 2), (0, 21), (0, 3), (0, 2), (2, 0), (0, 11), (4, 4), (0, 4), (0, 3), (0, 1), (3, 1), (4, 7)] = some [(20, .isub, 1), (21, .istore_n 2, 1), (22, .iload_n 2, 1), (23, .istore_n 3, 1), (24, .iload_n 3, 1), (25, .iload_n 2, 1), (26, .bipush 6, 2), (28, .iadd, 1), (29, .if_icmp .ge 28, 3), (32, .aload_n 0, 1), (33, .iload_n 3, 1), (34, .iload_n 1, 1), (35, .invokevirtual 79, 3), (38, .ifCond .eq 13, 3)] := by decide +kernel
theorem dX1_countCrowds_20 : decode cX1_countCrowds 20 = .ok (.isub, 1) := dz_at dqX1_countCrowds_p051 0 rfl
theorem dX1_countCrowds_21 : decode cX1_countCrowds 21 = .ok (.istore_n 2, 1) := dz_at dqX1_countCrowds_p051 1 rfl
theorem dX1_countCrowds_22 : decode cX1_countCrowds 22 = .ok (.iload_n 2, 1) := dz_at dqX1_countCrowds_p051 2 rfl
theorem dX1_countCrowds_23 : decode cX1_countCrowds 23 = .ok (.istore_n 3, 1) := dz_at dqX1_countCrowds_p051 3 rfl
theorem dX1_countCrowds_24 : decode cX1_countCrowds 24 = .ok (.iload_n 3, 1) := dz_at dqX1_countCrowds_p051 4 rfl
theorem dX1_countCrowds_25 : decode cX1_countCrowds 25 = .ok (.iload_n 2, 1) := dz_at dqX1_countCrowds_p051 5 rfl
theorem dX1_countCrowds_26 : decode cX1_countCrowds 26 = .ok (.bipush 6, 2) := dz_at dqX1_countCrowds_p051 6 rfl
theorem dX1_countCrowds_28 : decode cX1_countCrowds 28 = .ok (.iadd, 1) := dz_at dqX1_countCrowds_p051 7 rfl
theorem dX1_countCrowds_29 : decode cX1_countCrowds 29 = .ok (.if_icmp .ge 28, 3) := dz_at dqX1_countCrowds_p051 8 rfl
theorem dX1_countCrowds_32 : decode cX1_countCrowds 32 = .ok (.aload_n 0, 1) := dz_at dqX1_countCrowds_p051 9 rfl
theorem dX1_countCrowds_33 : decode cX1_countCrowds 33 = .ok (.iload_n 3, 1) := dz_at dqX1_countCrowds_p051 10 rfl
theorem dX1_countCrowds_34 : decode cX1_countCrowds 34 = .ok (.iload_n 1, 1) := dz_at dqX1_countCrowds_p051 11 rfl
theorem dX1_countCrowds_35 : decode cX1_countCrowds 35 = .ok (.invokevirtual 79, 3) := dz_at dqX1_countCrowds_p051 12 rfl
theorem dX1_countCrowds_38 : decode cX1_countCrowds 38 = .ok (.ifCond .eq 13, 3) := dz_at dqX1_countCrowds_p051 13 rfl
set_option maxRecDepth 20000 in
theorem dqX1_countCrowds_p052 : dz_rn 41 (cX1_countCrowds.data.toList.drop 41) [(0, 4), (3, 0), (0, 1), (0, 41), (0, 10), (0, 9), (0, 11), (0, 22), (5, 0), (4, 0), (5, 0), (4, 0), (0, 25)] = some [(41, .aload_n 0, 1), (42, .getfield 27, 3), (45, .iload_n 1, 1), (46, .dup2, 1), (47, .iaload, 1), (48, .iconst 1, 1), (49, .iadd, 1), (50, .iastore, 1), (51, .iinc 3 1, 3), (54, .goto (-30), 3), (57, .iinc 1 1, 3), (60, .goto (-58), 3), (63, .return_, 1)] := by decide +kernel
theorem dX1_countCrowds_41 : decode cX1_countCrowds 41 = .ok (.aload_n 0, 1) := dz_at dqX1_countCrowds_p052 0 rfl
theorem dX1_countCrowds_42 : decode cX1_countCrowds 42 = .ok (.getfield 27, 3) := dz_at dqX1_countCrowds_p052 1 rfl
theorem dX1_countCrowds_45 : decode cX1_countCrowds 45 = .ok (.iload_n 1, 1) := dz_at dqX1_countCrowds_p052 2 rfl
theorem dX1_countCrowds_46 : decode cX1_countCrowds 46 = .ok (.dup2, 1) := dz_at dqX1_countCrowds_p052 3 rfl
theorem dX1_countCrowds_47 : decode cX1_countCrowds 47 = .ok (.iaload, 1) := dz_at dqX1_countCrowds_p052 4 rfl
theorem dX1_countCrowds_48 : decode cX1_countCrowds 48 = .ok (.iconst 1, 1) := dz_at dqX1_countCrowds_p052 5 rfl
theorem dX1_countCrowds_49 : decode cX1_countCrowds 49 = .ok (.iadd, 1) := dz_at dqX1_countCrowds_p052 6 rfl
theorem dX1_countCrowds_50 : decode cX1_countCrowds 50 = .ok (.iastore, 1) := dz_at dqX1_countCrowds_p052 7 rfl
theorem dX1_countCrowds_51 : decode cX1_countCrowds 51 = .ok (.iinc 3 1, 3) := dz_at dqX1_countCrowds_p052 8 rfl
theorem dX1_countCrowds_54 : decode cX1_countCrowds 54 = .ok (.goto (-30), 3) := dz_at dqX1_countCrowds_p052 9 rfl
theorem dX1_countCrowds_57 : decode cX1_countCrowds 57 = .ok (.iinc 1 1, 3) := dz_at dqX1_countCrowds_p052 10 rfl
theorem dX1_countCrowds_60 : decode cX1_countCrowds 60 = .ok (.goto (-58), 3) := dz_at dqX1_countCrowds_p052 11 rfl
theorem dX1_countCrowds_63 : decode cX1_countCrowds 63 = .ok (.return_, 1) := dz_at dqX1_countCrowds_p052 12 rfl
set_option maxRecDepth 20000 in
theorem ggX1_crowds_X1_muchAlike : GoodIn wsX1_crowds wsX1_muchAlike := goodIn_r _ [6, 7, 8, 9, 10, 11, 12, 13, 14, 15, 16, 17, 18, 19, 20, 21, 22, 23, 24, 25, 26, 27, 28, 29, 30, 31, 32, 33, 34, 35] rfl (by decide +kernel)
set_option maxRecDepth 20000 in
theorem gX1_crowds_X1_muchAlike : GoodIn wsX1_crowds (wsV RX1 83 RX1 yX1_muchAlike wsX1_muchAlike) := goodIn_app (goodIn_of _ (by decide +kernel)) ggX1_crowds_X1_muchAlike
set_option maxRecDepth 20000 in
theorem dqX1_crowds_p050 : dz_rn 0 (cX1_crowds.data.toList.drop 0) [(0, 1), (0, 2), (4, 1), (0, 4), (3, 0), (0, 1), (0, 10), (0, 13), (4, 1), (0, 4), (3, 0), (0, 2), (0, 10), (0, 13)] = some [(0, .iload_n 1, 1), (1, .iload_n 2, 1), (2, .if_icmp .eq 46, 3), (5, .aload_n 0, 1), (6, .getfield 9, 3), (9, .iload_n 1, 1), (10, .iaload, 1), (11, .iconst (-1), 1), (12, .if_icmp .eq 36, 3), (15, .aload_n 0, 1), (16, .getfield 9, 3), (19, .iload_n 2, 1), (20, .iaload, 1), (21, .iconst (-1), 1)] := by decide +kernel
theorem dX1_crowds_0 : decode cX1_crowds 0 = .ok (.iload_n 1, 1) := dz_at dqX1_crowds_p050 0 rfl
theorem dX1_crowds_1 : decode cX1_crowds 1 = .ok (.iload_n 2, 1) := dz_at dqX1_crowds_p050 1 rfl
theorem dX1_crowds_2 : decode cX1_crowds 2 = .ok (.if_icmp .eq 46, 3) := dz_at dqX1_crowds_p050 2 rfl
theorem dX1_crowds_5 : decode cX1_crowds 5 = .ok (.aload_n 0, 1) := dz_at dqX1_crowds_p050 3 rfl
theorem dX1_crowds_6 : decode cX1_crowds 6 = .ok (.getfield 9, 3) := dz_at dqX1_crowds_p050 4 rfl
theorem dX1_crowds_9 : decode cX1_crowds 9 = .ok (.iload_n 1, 1) := dz_at dqX1_crowds_p050 5 rfl
theorem dX1_crowds_10 : decode cX1_crowds 10 = .ok (.iaload, 1) := dz_at dqX1_crowds_p050 6 rfl
theorem dX1_crowds_11 : decode cX1_crowds 11 = .ok (.iconst (-1), 1) := dz_at dqX1_crowds_p050 7 rfl
theorem dX1_crowds_12 : decode cX1_crowds 12 = .ok (.if_icmp .eq 36, 3) := dz_at dqX1_crowds_p050 8 rfl
theorem dX1_crowds_15 : decode cX1_crowds 15 = .ok (.aload_n 0, 1) := dz_at dqX1_crowds_p050 9 rfl
theorem dX1_crowds_16 : decode cX1_crowds 16 = .ok (.getfield 9, 3) := dz_at dqX1_crowds_p050 10 rfl
theorem dX1_crowds_19 : decode cX1_crowds 19 = .ok (.iload_n 2, 1) := dz_at dqX1_crowds_p050 11 rfl
theorem dX1_crowds_20 : decode cX1_crowds 20 = .ok (.iaload, 1) := dz_at dqX1_crowds_p050 12 rfl
theorem dX1_crowds_21 : decode cX1_crowds 21 = .ok (.iconst (-1), 1) := dz_at dqX1_crowds_p050 13 rfl
set_option maxRecDepth 20000 in
theorem dqX1_crowds_p051 : dz_rn 22 (cX1_crowds.data.toList.drop 22) [(4, 1), (0, 4), (0, 4), (3, 0), (0, 1), (0, 10), (0, 4), (3, 0), (0, 2), (0, 10), (3, 1), (4, 7), (0, 9), (4, 0)] = some [(22, .if_icmp .eq 26, 3), (25, .aload_n 0, 1), (26, .aload_n 0, 1), (27, .getfield 9, 3), (30, .iload_n 1, 1), (31, .iaload, 1), (32, .aload_n 0, 1), (33, .getfield 9, 3), (36, .iload_n 2, 1), (37, .iaload, 1), (38, .invokevirtual 83, 3), (41, .ifCond .eq 7, 3), (44, .iconst 1, 1), (45, .goto 4, 3)] := by decide +kernel
theorem dX1_crowds_22 : decode cX1_crowds 22 = .ok (.if_icmp .eq 26, 3) := dz_at dqX1_crowds_p051 0 rfl
theorem dX1_crowds_25 : decode cX1_crowds 25 = .ok (.aload_n 0, 1) := dz_at dqX1_crowds_p051 1 rfl
theorem dX1_crowds_26 : decode cX1_crowds 26 = .ok (.aload_n 0, 1) := dz_at dqX1_crowds_p051 2 rfl
theorem dX1_crowds_27 : decode cX1_crowds 27 = .ok (.getfield 9, 3) := dz_at dqX1_crowds_p051 3 rfl
theorem dX1_crowds_30 : decode cX1_crowds 30 = .ok (.iload_n 1, 1) := dz_at dqX1_crowds_p051 4 rfl
theorem dX1_crowds_31 : decode cX1_crowds 31 = .ok (.iaload, 1) := dz_at dqX1_crowds_p051 5 rfl
theorem dX1_crowds_32 : decode cX1_crowds 32 = .ok (.aload_n 0, 1) := dz_at dqX1_crowds_p051 6 rfl
theorem dX1_crowds_33 : decode cX1_crowds 33 = .ok (.getfield 9, 3) := dz_at dqX1_crowds_p051 7 rfl
theorem dX1_crowds_36 : decode cX1_crowds 36 = .ok (.iload_n 2, 1) := dz_at dqX1_crowds_p051 8 rfl
theorem dX1_crowds_37 : decode cX1_crowds 37 = .ok (.iaload, 1) := dz_at dqX1_crowds_p051 9 rfl
theorem dX1_crowds_38 : decode cX1_crowds 38 = .ok (.invokevirtual 83, 3) := dz_at dqX1_crowds_p051 10 rfl
theorem dX1_crowds_41 : decode cX1_crowds 41 = .ok (.ifCond .eq 7, 3) := dz_at dqX1_crowds_p051 11 rfl
theorem dX1_crowds_44 : decode cX1_crowds 44 = .ok (.iconst 1, 1) := dz_at dqX1_crowds_p051 12 rfl
theorem dX1_crowds_45 : decode cX1_crowds 45 = .ok (.goto 4, 3) := dz_at dqX1_crowds_p051 13 rfl
set_option maxRecDepth 20000 in
theorem dqX1_crowds_p052 : dz_rn 48 (cX1_crowds.data.toList.drop 48) [(0, 8), (0, 12)] = some [(48, .iconst 0, 1), (49, .ireturn, 1)] := by decide +kernel
theorem dX1_crowds_48 : decode cX1_crowds 48 = .ok (.iconst 0, 1) := dz_at dqX1_crowds_p052 0 rfl
theorem dX1_crowds_49 : decode cX1_crowds 49 = .ok (.ireturn, 1) := dz_at dqX1_crowds_p052 1 rfl
set_option maxRecDepth 20000 in
theorem ggX1_strengthBehind_X1_gainOf : GoodIn wsX1_strengthBehind wsX1_gainOf := goodIn_r _ [7, 8, 18, 19, 20, 21, 22, 23, 24, 25, 26, 27, 28, 29, 30] rfl (by decide +kernel)
set_option maxRecDepth 20000 in
theorem gX1_strengthBehind_X1_gainOf : GoodIn wsX1_strengthBehind (wsV RX1 86 RX1 yX1_gainOf wsX1_gainOf) := goodIn_app (goodIn_of _ (by decide +kernel)) ggX1_strengthBehind_X1_gainOf
set_option maxRecDepth 20000 in
theorem ggX1_strengthBehind_X1_fallen : GoodIn wsX1_strengthBehind wsX1_fallen := goodIn_r _ [12, 13, 14, 15, 16, 17, 18, 19, 20, 21, 22, 23, 24, 25, 26, 27, 28, 29, 30] rfl (by decide +kernel)
set_option maxRecDepth 20000 in
theorem gX1_strengthBehind_X1_fallen : GoodIn wsX1_strengthBehind (wsV RX1 76 RX1 yX1_fallen wsX1_fallen) := goodIn_app (goodIn_of _ (by decide +kernel)) ggX1_strengthBehind_X1_fallen
set_option maxRecDepth 20000 in
theorem dqX1_strengthBehind_p050 : dz_rn 0 (cX1_strengthBehind.data.toList.drop 0) [(0, 4), (3, 0), (0, 1), (0, 10), (1, 1), (0, 8), (1, 1), (1, 0), (0, 2), (4, 4), (0, 3), (1, 0), (0, 32), (0, 9)] = some [(0, .aload_n 0, 1), (1, .getfield 15, 3), (4, .iload_n 1, 1), (5, .iaload, 1), (6, .istore 4, 2), (8, .iconst 0, 1), (9, .istore 5, 2), (11, .iload 5, 2), (13, .iload_n 2, 1), (14, .if_icmp .ge 44, 3), (17, .iload_n 3, 1), (18, .iload 5, 2), (20, .ishr, 1), (21, .iconst 1, 1)] := by decide +kernel
theorem dX1_strengthBehind_0 : decode cX1_strengthBehind 0 = .ok (.aload_n 0, 1) := dz_at dqX1_strengthBehind_p050 0 rfl
theorem dX1_strengthBehind_1 : decode cX1_strengthBehind 1 = .ok (.getfield 15, 3) := dz_at dqX1_strengthBehind_p050 1 rfl
theorem dX1_strengthBehind_4 : decode cX1_strengthBehind 4 = .ok (.iload_n 1, 1) := dz_at dqX1_strengthBehind_p050 2 rfl
theorem dX1_strengthBehind_5 : decode cX1_strengthBehind 5 = .ok (.iaload, 1) := dz_at dqX1_strengthBehind_p050 3 rfl
theorem dX1_strengthBehind_6 : decode cX1_strengthBehind 6 = .ok (.istore 4, 2) := dz_at dqX1_strengthBehind_p050 4 rfl
theorem dX1_strengthBehind_8 : decode cX1_strengthBehind 8 = .ok (.iconst 0, 1) := dz_at dqX1_strengthBehind_p050 5 rfl
theorem dX1_strengthBehind_9 : decode cX1_strengthBehind 9 = .ok (.istore 5, 2) := dz_at dqX1_strengthBehind_p050 6 rfl
theorem dX1_strengthBehind_11 : decode cX1_strengthBehind 11 = .ok (.iload 5, 2) := dz_at dqX1_strengthBehind_p050 7 rfl
theorem dX1_strengthBehind_13 : decode cX1_strengthBehind 13 = .ok (.iload_n 2, 1) := dz_at dqX1_strengthBehind_p050 8 rfl
theorem dX1_strengthBehind_14 : decode cX1_strengthBehind 14 = .ok (.if_icmp .ge 44, 3) := dz_at dqX1_strengthBehind_p050 9 rfl
theorem dX1_strengthBehind_17 : decode cX1_strengthBehind 17 = .ok (.iload_n 3, 1) := dz_at dqX1_strengthBehind_p050 10 rfl
theorem dX1_strengthBehind_18 : decode cX1_strengthBehind 18 = .ok (.iload 5, 2) := dz_at dqX1_strengthBehind_p050 11 rfl
theorem dX1_strengthBehind_20 : decode cX1_strengthBehind 20 = .ok (.ishr, 1) := dz_at dqX1_strengthBehind_p050 12 rfl
theorem dX1_strengthBehind_21 : decode cX1_strengthBehind 21 = .ok (.iconst 1, 1) := dz_at dqX1_strengthBehind_p050 13 rfl
set_option maxRecDepth 20000 in
theorem dqX1_strengthBehind_p051 : dz_rn 22 (cX1_strengthBehind.data.toList.drop 22) [(0, 29), (0, 9), (4, 2), (1, 0), (0, 4), (1, 0), (3, 1), (0, 11), (1, 1), (0, 4), (1, 0), (0, 4), (3, 0), (0, 1)] = some [(22, .iand, 1), (23, .iconst 1, 1), (24, .if_icmp .ne 14, 3), (27, .iload 4, 2), (29, .aload_n 0, 1), (30, .iload 4, 2), (32, .invokevirtual 86, 3), (35, .iadd, 1), (36, .istore 4, 2), (38, .aload_n 0, 1), (39, .iload 4, 2), (41, .aload_n 0, 1), (42, .getfield 27, 3), (45, .iload_n 1, 1)] := by decide +kernel
theorem dX1_strengthBehind_22 : decode cX1_strengthBehind 22 = .ok (.iand, 1) := dz_at dqX1_strengthBehind_p051 0 rfl
theorem dX1_strengthBehind_23 : decode cX1_strengthBehind 23 = .ok (.iconst 1, 1) := dz_at dqX1_strengthBehind_p051 1 rfl
theorem dX1_strengthBehind_24 : decode cX1_strengthBehind 24 = .ok (.if_icmp .ne 14, 3) := dz_at dqX1_strengthBehind_p051 2 rfl
theorem dX1_strengthBehind_27 : decode cX1_strengthBehind 27 = .ok (.iload 4, 2) := dz_at dqX1_strengthBehind_p051 3 rfl
theorem dX1_strengthBehind_29 : decode cX1_strengthBehind 29 = .ok (.aload_n 0, 1) := dz_at dqX1_strengthBehind_p051 4 rfl
theorem dX1_strengthBehind_30 : decode cX1_strengthBehind 30 = .ok (.iload 4, 2) := dz_at dqX1_strengthBehind_p051 5 rfl
theorem dX1_strengthBehind_32 : decode cX1_strengthBehind 32 = .ok (.invokevirtual 86, 3) := dz_at dqX1_strengthBehind_p051 6 rfl
theorem dX1_strengthBehind_35 : decode cX1_strengthBehind 35 = .ok (.iadd, 1) := dz_at dqX1_strengthBehind_p051 7 rfl
theorem dX1_strengthBehind_36 : decode cX1_strengthBehind 36 = .ok (.istore 4, 2) := dz_at dqX1_strengthBehind_p051 8 rfl
theorem dX1_strengthBehind_38 : decode cX1_strengthBehind 38 = .ok (.aload_n 0, 1) := dz_at dqX1_strengthBehind_p051 9 rfl
theorem dX1_strengthBehind_39 : decode cX1_strengthBehind 39 = .ok (.iload 4, 2) := dz_at dqX1_strengthBehind_p051 10 rfl
theorem dX1_strengthBehind_41 : decode cX1_strengthBehind 41 = .ok (.aload_n 0, 1) := dz_at dqX1_strengthBehind_p051 11 rfl
theorem dX1_strengthBehind_42 : decode cX1_strengthBehind 42 = .ok (.getfield 27, 3) := dz_at dqX1_strengthBehind_p051 12 rfl
theorem dX1_strengthBehind_45 : decode cX1_strengthBehind 45 = .ok (.iload_n 1, 1) := dz_at dqX1_strengthBehind_p051 13 rfl
set_option maxRecDepth 20000 in
theorem dqX1_strengthBehind_p052 : dz_rn 46 (cX1_strengthBehind.data.toList.drop 46) [(0, 10), (3, 1), (1, 1), (5, 0), (4, 0), (1, 0), (0, 12)] = some [(46, .iaload, 1), (47, .invokevirtual 76, 3), (50, .istore 4, 2), (52, .iinc 5 1, 3), (55, .goto (-44), 3), (58, .iload 4, 2), (60, .ireturn, 1)] := by decide +kernel
theorem dX1_strengthBehind_46 : decode cX1_strengthBehind 46 = .ok (.iaload, 1) := dz_at dqX1_strengthBehind_p052 0 rfl
theorem dX1_strengthBehind_47 : decode cX1_strengthBehind 47 = .ok (.invokevirtual 76, 3) := dz_at dqX1_strengthBehind_p052 1 rfl
theorem dX1_strengthBehind_50 : decode cX1_strengthBehind 50 = .ok (.istore 4, 2) := dz_at dqX1_strengthBehind_p052 2 rfl
theorem dX1_strengthBehind_52 : decode cX1_strengthBehind 52 = .ok (.iinc 5 1, 3) := dz_at dqX1_strengthBehind_p052 3 rfl
theorem dX1_strengthBehind_55 : decode cX1_strengthBehind 55 = .ok (.goto (-44), 3) := dz_at dqX1_strengthBehind_p052 4 rfl
theorem dX1_strengthBehind_58 : decode cX1_strengthBehind 58 = .ok (.iload 4, 2) := dz_at dqX1_strengthBehind_p052 5 rfl
theorem dX1_strengthBehind_60 : decode cX1_strengthBehind 60 = .ok (.ireturn, 1) := dz_at dqX1_strengthBehind_p052 6 rfl
set_option maxRecDepth 20000 in
theorem dqX1_fallen_p050 : dz_rn 0 (cX1_fallen.data.toList.drop 0) [(0, 8), (0, 1), (0, 4), (3, 0), (0, 1), (2, 0), (0, 27), (0, 10), (0, 26), (0, 2), (0, 26), (3, 2), (0, 12)] = some [(0, .iconst 0, 1), (1, .iload_n 1, 1), (2, .aload_n 0, 1), (3, .getfield 36, 3), (6, .iload_n 1, 1), (7, .bipush 10, 2), (9, .idiv, 1), (10, .iaload, 1), (11, .isub, 1), (12, .iload_n 2, 1), (13, .isub, 1), (14, .invokestatic 90, 3), (17, .ireturn, 1)] := by decide +kernel
theorem dX1_fallen_0 : decode cX1_fallen 0 = .ok (.iconst 0, 1) := dz_at dqX1_fallen_p050 0 rfl
theorem dX1_fallen_1 : decode cX1_fallen 1 = .ok (.iload_n 1, 1) := dz_at dqX1_fallen_p050 1 rfl
theorem dX1_fallen_2 : decode cX1_fallen 2 = .ok (.aload_n 0, 1) := dz_at dqX1_fallen_p050 2 rfl
theorem dX1_fallen_3 : decode cX1_fallen 3 = .ok (.getfield 36, 3) := dz_at dqX1_fallen_p050 3 rfl
theorem dX1_fallen_6 : decode cX1_fallen 6 = .ok (.iload_n 1, 1) := dz_at dqX1_fallen_p050 4 rfl
theorem dX1_fallen_7 : decode cX1_fallen 7 = .ok (.bipush 10, 2) := dz_at dqX1_fallen_p050 5 rfl
theorem dX1_fallen_9 : decode cX1_fallen 9 = .ok (.idiv, 1) := dz_at dqX1_fallen_p050 6 rfl
theorem dX1_fallen_10 : decode cX1_fallen 10 = .ok (.iaload, 1) := dz_at dqX1_fallen_p050 7 rfl
theorem dX1_fallen_11 : decode cX1_fallen 11 = .ok (.isub, 1) := dz_at dqX1_fallen_p050 8 rfl
theorem dX1_fallen_12 : decode cX1_fallen 12 = .ok (.iload_n 2, 1) := dz_at dqX1_fallen_p050 9 rfl
theorem dX1_fallen_13 : decode cX1_fallen 13 = .ok (.isub, 1) := dz_at dqX1_fallen_p050 10 rfl
theorem dX1_fallen_14 : decode cX1_fallen 14 = .ok (.invokestatic 90, 3) := dz_at dqX1_fallen_p050 11 rfl
theorem dX1_fallen_17 : decode cX1_fallen 17 = .ok (.ireturn, 1) := dz_at dqX1_fallen_p050 12 rfl
set_option maxRecDepth 20000 in
theorem dqX1_gainOf_p050 : dz_rn 0 (cX1_gainOf.data.toList.drop 0) [(2, 0), (0, 1), (0, 26), (0, 4), (3, 0), (0, 23), (2, 0), (0, 27), (0, 12)] = some [(0, .bipush 100, 2), (2, .iload_n 1, 1), (3, .isub, 1), (4, .aload_n 0, 1), (5, .getfield 43, 3), (8, .imul, 1), (9, .bipush 100, 2), (11, .idiv, 1), (12, .ireturn, 1)] := by decide +kernel
theorem dX1_gainOf_0 : decode cX1_gainOf 0 = .ok (.bipush 100, 2) := dz_at dqX1_gainOf_p050 0 rfl
theorem dX1_gainOf_2 : decode cX1_gainOf 2 = .ok (.iload_n 1, 1) := dz_at dqX1_gainOf_p050 1 rfl
theorem dX1_gainOf_3 : decode cX1_gainOf 3 = .ok (.isub, 1) := dz_at dqX1_gainOf_p050 2 rfl
theorem dX1_gainOf_4 : decode cX1_gainOf 4 = .ok (.aload_n 0, 1) := dz_at dqX1_gainOf_p050 3 rfl
theorem dX1_gainOf_5 : decode cX1_gainOf 5 = .ok (.getfield 43, 3) := dz_at dqX1_gainOf_p050 4 rfl
theorem dX1_gainOf_8 : decode cX1_gainOf 8 = .ok (.imul, 1) := dz_at dqX1_gainOf_p050 5 rfl
theorem dX1_gainOf_9 : decode cX1_gainOf 9 = .ok (.bipush 100, 2) := dz_at dqX1_gainOf_p050 6 rfl
theorem dX1_gainOf_11 : decode cX1_gainOf 11 = .ok (.idiv, 1) := dz_at dqX1_gainOf_p050 7 rfl
theorem dX1_gainOf_12 : decode cX1_gainOf 12 = .ok (.ireturn, 1) := dz_at dqX1_gainOf_p050 8 rfl
set_option maxRecDepth 20000 in
theorem ggX1_walkPast_X1_gainOf : GoodIn wsX1_walkPast wsX1_gainOf := goodIn_r _ [9, 10, 11, 12, 13, 14, 15, 16, 17, 18, 19, 20, 21, 22, 23] rfl (by decide +kernel)
set_option maxRecDepth 20000 in
theorem gX1_walkPast_X1_gainOf : GoodIn wsX1_walkPast (wsV RX1 86 RX1 yX1_gainOf wsX1_gainOf) := goodIn_app (goodIn_of _ (by decide +kernel)) ggX1_walkPast_X1_gainOf
set_option maxRecDepth 20000 in
theorem dqX1_walkPast_p050 : dz_rn 0 (cX1_walkPast.data.toList.drop 0) [(0, 8), (0, 20), (0, 1), (2, 0), (0, 23), (0, 21), (0, 3), (1, 1), (1, 0), (0, 3), (2, 0), (0, 11), (4, 4), (0, 4)] = some [(0, .iconst 0, 1), (1, .istore_n 2, 1), (2, .iload_n 1, 1), (3, .bipush 6, 2), (5, .imul, 1), (6, .istore_n 3, 1), (7, .iload_n 3, 1), (8, .istore 4, 2), (10, .iload 4, 2), (12, .iload_n 3, 1), (13, .bipush 6, 2), (15, .iadd, 1), (16, .if_icmp .ge 50, 3), (19, .aload_n 0, 1)] := by decide +kernel
theorem dX1_walkPast_0 : decode cX1_walkPast 0 = .ok (.iconst 0, 1) := dz_at dqX1_walkPast_p050 0 rfl
theorem dX1_walkPast_1 : decode cX1_walkPast 1 = .ok (.istore_n 2, 1) := dz_at dqX1_walkPast_p050 1 rfl
theorem dX1_walkPast_2 : decode cX1_walkPast 2 = .ok (.iload_n 1, 1) := dz_at dqX1_walkPast_p050 2 rfl
theorem dX1_walkPast_3 : decode cX1_walkPast 3 = .ok (.bipush 6, 2) := dz_at dqX1_walkPast_p050 3 rfl
theorem dX1_walkPast_5 : decode cX1_walkPast 5 = .ok (.imul, 1) := dz_at dqX1_walkPast_p050 4 rfl
theorem dX1_walkPast_6 : decode cX1_walkPast 6 = .ok (.istore_n 3, 1) := dz_at dqX1_walkPast_p050 5 rfl
theorem dX1_walkPast_7 : decode cX1_walkPast 7 = .ok (.iload_n 3, 1) := dz_at dqX1_walkPast_p050 6 rfl
theorem dX1_walkPast_8 : decode cX1_walkPast 8 = .ok (.istore 4, 2) := dz_at dqX1_walkPast_p050 7 rfl
theorem dX1_walkPast_10 : decode cX1_walkPast 10 = .ok (.iload 4, 2) := dz_at dqX1_walkPast_p050 8 rfl
theorem dX1_walkPast_12 : decode cX1_walkPast 12 = .ok (.iload_n 3, 1) := dz_at dqX1_walkPast_p050 9 rfl
theorem dX1_walkPast_13 : decode cX1_walkPast 13 = .ok (.bipush 6, 2) := dz_at dqX1_walkPast_p050 10 rfl
theorem dX1_walkPast_15 : decode cX1_walkPast 15 = .ok (.iadd, 1) := dz_at dqX1_walkPast_p050 11 rfl
theorem dX1_walkPast_16 : decode cX1_walkPast 16 = .ok (.if_icmp .ge 50, 3) := dz_at dqX1_walkPast_p050 12 rfl
theorem dX1_walkPast_19 : decode cX1_walkPast 19 = .ok (.aload_n 0, 1) := dz_at dqX1_walkPast_p050 13 rfl
set_option maxRecDepth 20000 in
theorem dqX1_walkPast_p051 : dz_rn 20 (cX1_walkPast.data.toList.drop 20) [(3, 0), (1, 0), (0, 10), (0, 13), (4, 1), (0, 4), (0, 4), (3, 0), (1, 0), (0, 10), (3, 1), (1, 1), (0, 4), (3, 0)] = some [(20, .getfield 9, 3), (23, .iload 4, 2), (25, .iaload, 1), (26, .iconst (-1), 1), (27, .if_icmp .eq 33, 3), (30, .aload_n 0, 1), (31, .aload_n 0, 1), (32, .getfield 15, 3), (35, .iload 4, 2), (37, .iaload, 1), (38, .invokevirtual 86, 3), (41, .istore 5, 2), (43, .aload_n 0, 1), (44, .getfield 15, 3)] := by decide +kernel
theorem dX1_walkPast_20 : decode cX1_walkPast 20 = .ok (.getfield 9, 3) := dz_at dqX1_walkPast_p051 0 rfl
theorem dX1_walkPast_23 : decode cX1_walkPast 23 = .ok (.iload 4, 2) := dz_at dqX1_walkPast_p051 1 rfl
theorem dX1_walkPast_25 : decode cX1_walkPast 25 = .ok (.iaload, 1) := dz_at dqX1_walkPast_p051 2 rfl
theorem dX1_walkPast_26 : decode cX1_walkPast 26 = .ok (.iconst (-1), 1) := dz_at dqX1_walkPast_p051 3 rfl
theorem dX1_walkPast_27 : decode cX1_walkPast 27 = .ok (.if_icmp .eq 33, 3) := dz_at dqX1_walkPast_p051 4 rfl
theorem dX1_walkPast_30 : decode cX1_walkPast 30 = .ok (.aload_n 0, 1) := dz_at dqX1_walkPast_p051 5 rfl
theorem dX1_walkPast_31 : decode cX1_walkPast 31 = .ok (.aload_n 0, 1) := dz_at dqX1_walkPast_p051 6 rfl
theorem dX1_walkPast_32 : decode cX1_walkPast 32 = .ok (.getfield 15, 3) := dz_at dqX1_walkPast_p051 7 rfl
theorem dX1_walkPast_35 : decode cX1_walkPast 35 = .ok (.iload 4, 2) := dz_at dqX1_walkPast_p051 8 rfl
theorem dX1_walkPast_37 : decode cX1_walkPast 37 = .ok (.iaload, 1) := dz_at dqX1_walkPast_p051 9 rfl
theorem dX1_walkPast_38 : decode cX1_walkPast 38 = .ok (.invokevirtual 86, 3) := dz_at dqX1_walkPast_p051 10 rfl
theorem dX1_walkPast_41 : decode cX1_walkPast 41 = .ok (.istore 5, 2) := dz_at dqX1_walkPast_p051 11 rfl
theorem dX1_walkPast_43 : decode cX1_walkPast 43 = .ok (.aload_n 0, 1) := dz_at dqX1_walkPast_p051 12 rfl
theorem dX1_walkPast_44 : decode cX1_walkPast 44 = .ok (.getfield 15, 3) := dz_at dqX1_walkPast_p051 13 rfl
set_option maxRecDepth 20000 in
theorem dqX1_walkPast_p052 : dz_rn 47 (cX1_walkPast.data.toList.drop 47) [(1, 0), (0, 41), (0, 10), (1, 0), (0, 11), (0, 22), (0, 2), (1, 0), (0, 11), (0, 20), (5, 0), (4, 0), (0, 4), (3, 0)] = some [(47, .iload 4, 2), (49, .dup2, 1), (50, .iaload, 1), (51, .iload 5, 2), (53, .iadd, 1), (54, .iastore, 1), (55, .iload_n 2, 1), (56, .iload 5, 2), (58, .iadd, 1), (59, .istore_n 2, 1), (60, .iinc 4 1, 3), (63, .goto (-53), 3), (66, .aload_n 0, 1), (67, .getfield 33, 3)] := by decide +kernel
theorem dX1_walkPast_47 : decode cX1_walkPast 47 = .ok (.iload 4, 2) := dz_at dqX1_walkPast_p052 0 rfl
theorem dX1_walkPast_49 : decode cX1_walkPast 49 = .ok (.dup2, 1) := dz_at dqX1_walkPast_p052 1 rfl
theorem dX1_walkPast_50 : decode cX1_walkPast 50 = .ok (.iaload, 1) := dz_at dqX1_walkPast_p052 2 rfl
theorem dX1_walkPast_51 : decode cX1_walkPast 51 = .ok (.iload 5, 2) := dz_at dqX1_walkPast_p052 3 rfl
theorem dX1_walkPast_53 : decode cX1_walkPast 53 = .ok (.iadd, 1) := dz_at dqX1_walkPast_p052 4 rfl
theorem dX1_walkPast_54 : decode cX1_walkPast 54 = .ok (.iastore, 1) := dz_at dqX1_walkPast_p052 5 rfl
theorem dX1_walkPast_55 : decode cX1_walkPast 55 = .ok (.iload_n 2, 1) := dz_at dqX1_walkPast_p052 6 rfl
theorem dX1_walkPast_56 : decode cX1_walkPast 56 = .ok (.iload 5, 2) := dz_at dqX1_walkPast_p052 7 rfl
theorem dX1_walkPast_58 : decode cX1_walkPast 58 = .ok (.iadd, 1) := dz_at dqX1_walkPast_p052 8 rfl
theorem dX1_walkPast_59 : decode cX1_walkPast 59 = .ok (.istore_n 2, 1) := dz_at dqX1_walkPast_p052 9 rfl
theorem dX1_walkPast_60 : decode cX1_walkPast 60 = .ok (.iinc 4 1, 3) := dz_at dqX1_walkPast_p052 10 rfl
theorem dX1_walkPast_63 : decode cX1_walkPast 63 = .ok (.goto (-53), 3) := dz_at dqX1_walkPast_p052 11 rfl
theorem dX1_walkPast_66 : decode cX1_walkPast 66 = .ok (.aload_n 0, 1) := dz_at dqX1_walkPast_p052 12 rfl
theorem dX1_walkPast_67 : decode cX1_walkPast 67 = .ok (.getfield 33, 3) := dz_at dqX1_walkPast_p052 13 rfl
set_option maxRecDepth 20000 in
theorem dqX1_walkPast_p053 : dz_rn 70 (cX1_walkPast.data.toList.drop 70) [(0, 1), (0, 4), (3, 0), (0, 22), (0, 2), (0, 12)] = some [(70, .iload_n 1, 1), (71, .aload_n 0, 1), (72, .getfield 62, 3), (75, .iastore, 1), (76, .iload_n 2, 1), (77, .ireturn, 1)] := by decide +kernel
theorem dX1_walkPast_70 : decode cX1_walkPast 70 = .ok (.iload_n 1, 1) := dz_at dqX1_walkPast_p053 0 rfl
theorem dX1_walkPast_71 : decode cX1_walkPast 71 = .ok (.aload_n 0, 1) := dz_at dqX1_walkPast_p053 1 rfl
theorem dX1_walkPast_72 : decode cX1_walkPast 72 = .ok (.getfield 62, 3) := dz_at dqX1_walkPast_p053 2 rfl
theorem dX1_walkPast_75 : decode cX1_walkPast 75 = .ok (.iastore, 1) := dz_at dqX1_walkPast_p053 3 rfl
theorem dX1_walkPast_76 : decode cX1_walkPast 76 = .ok (.iload_n 2, 1) := dz_at dqX1_walkPast_p053 4 rfl
theorem dX1_walkPast_77 : decode cX1_walkPast 77 = .ok (.ireturn, 1) := dz_at dqX1_walkPast_p053 5 rfl
set_option maxRecDepth 20000 in
theorem dqX1_standingIn_p050 : dz_rn 0 (cX1_standingIn.data.toList.drop 0) [(0, 8), (0, 20), (0, 1), (2, 0), (0, 23), (0, 21), (0, 3), (1, 1), (1, 0), (0, 3), (2, 0), (0, 11), (4, 4), (0, 4)] = some [(0, .iconst 0, 1), (1, .istore_n 2, 1), (2, .iload_n 1, 1), (3, .bipush 6, 2), (5, .imul, 1), (6, .istore_n 3, 1), (7, .iload_n 3, 1), (8, .istore 4, 2), (10, .iload 4, 2), (12, .iload_n 3, 1), (13, .bipush 6, 2), (15, .iadd, 1), (16, .if_icmp .ge 23, 3), (19, .aload_n 0, 1)] := by decide +kernel
theorem dX1_standingIn_0 : decode cX1_standingIn 0 = .ok (.iconst 0, 1) := dz_at dqX1_standingIn_p050 0 rfl
theorem dX1_standingIn_1 : decode cX1_standingIn 1 = .ok (.istore_n 2, 1) := dz_at dqX1_standingIn_p050 1 rfl
theorem dX1_standingIn_2 : decode cX1_standingIn 2 = .ok (.iload_n 1, 1) := dz_at dqX1_standingIn_p050 2 rfl
theorem dX1_standingIn_3 : decode cX1_standingIn 3 = .ok (.bipush 6, 2) := dz_at dqX1_standingIn_p050 3 rfl
theorem dX1_standingIn_5 : decode cX1_standingIn 5 = .ok (.imul, 1) := dz_at dqX1_standingIn_p050 4 rfl
theorem dX1_standingIn_6 : decode cX1_standingIn 6 = .ok (.istore_n 3, 1) := dz_at dqX1_standingIn_p050 5 rfl
theorem dX1_standingIn_7 : decode cX1_standingIn 7 = .ok (.iload_n 3, 1) := dz_at dqX1_standingIn_p050 6 rfl
theorem dX1_standingIn_8 : decode cX1_standingIn 8 = .ok (.istore 4, 2) := dz_at dqX1_standingIn_p050 7 rfl
theorem dX1_standingIn_10 : decode cX1_standingIn 10 = .ok (.iload 4, 2) := dz_at dqX1_standingIn_p050 8 rfl
theorem dX1_standingIn_12 : decode cX1_standingIn 12 = .ok (.iload_n 3, 1) := dz_at dqX1_standingIn_p050 9 rfl
theorem dX1_standingIn_13 : decode cX1_standingIn 13 = .ok (.bipush 6, 2) := dz_at dqX1_standingIn_p050 10 rfl
theorem dX1_standingIn_15 : decode cX1_standingIn 15 = .ok (.iadd, 1) := dz_at dqX1_standingIn_p050 11 rfl
theorem dX1_standingIn_16 : decode cX1_standingIn 16 = .ok (.if_icmp .ge 23, 3) := dz_at dqX1_standingIn_p050 12 rfl
theorem dX1_standingIn_19 : decode cX1_standingIn 19 = .ok (.aload_n 0, 1) := dz_at dqX1_standingIn_p050 13 rfl
set_option maxRecDepth 20000 in
theorem dqX1_standingIn_p051 : dz_rn 20 (cX1_standingIn.data.toList.drop 20) [(3, 0), (1, 0), (0, 10), (0, 13), (4, 1), (5, 0), (5, 0), (4, 0), (0, 2), (0, 12)] = some [(20, .getfield 9, 3), (23, .iload 4, 2), (25, .iaload, 1), (26, .iconst (-1), 1), (27, .if_icmp .eq 6, 3), (30, .iinc 2 1, 3), (33, .iinc 4 1, 3), (36, .goto (-26), 3), (39, .iload_n 2, 1), (40, .ireturn, 1)] := by decide +kernel
theorem dX1_standingIn_20 : decode cX1_standingIn 20 = .ok (.getfield 9, 3) := dz_at dqX1_standingIn_p051 0 rfl
theorem dX1_standingIn_23 : decode cX1_standingIn 23 = .ok (.iload 4, 2) := dz_at dqX1_standingIn_p051 1 rfl
theorem dX1_standingIn_25 : decode cX1_standingIn 25 = .ok (.iaload, 1) := dz_at dqX1_standingIn_p051 2 rfl
theorem dX1_standingIn_26 : decode cX1_standingIn 26 = .ok (.iconst (-1), 1) := dz_at dqX1_standingIn_p051 3 rfl
theorem dX1_standingIn_27 : decode cX1_standingIn 27 = .ok (.if_icmp .eq 6, 3) := dz_at dqX1_standingIn_p051 4 rfl
theorem dX1_standingIn_30 : decode cX1_standingIn 30 = .ok (.iinc 2 1, 3) := dz_at dqX1_standingIn_p051 5 rfl
theorem dX1_standingIn_33 : decode cX1_standingIn 33 = .ok (.iinc 4 1, 3) := dz_at dqX1_standingIn_p051 6 rfl
theorem dX1_standingIn_36 : decode cX1_standingIn 36 = .ok (.goto (-26), 3) := dz_at dqX1_standingIn_p051 7 rfl
theorem dX1_standingIn_39 : decode cX1_standingIn 39 = .ok (.iload_n 2, 1) := dz_at dqX1_standingIn_p051 8 rfl
theorem dX1_standingIn_40 : decode cX1_standingIn 40 = .ok (.ireturn, 1) := dz_at dqX1_standingIn_p051 9 rfl
set_option maxRecDepth 20000 in
theorem ggX1_strengthAgainst_X1_crowds : GoodIn wsX1_strengthAgainst wsX1_crowds := goodIn_r _ [8, 9, 10, 11, 12, 7, 13, 14, 15, 16, 17, 18, 19, 20, 21, 22, 23, 24, 25, 26, 27, 28, 29, 30, 31, 32, 33, 34, 35, 36, 37, 38, 39, 40, 41, 42] rfl (by decide +kernel)
set_option maxRecDepth 20000 in
theorem gX1_strengthAgainst_X1_crowds : GoodIn wsX1_strengthAgainst (wsV RX1 79 RX1 yX1_crowds wsX1_crowds) := goodIn_app (goodIn_of _ (by decide +kernel)) ggX1_strengthAgainst_X1_crowds
set_option maxRecDepth 20000 in
theorem dqX1_strengthAgainst_p050 : dz_rn 0 (cX1_strengthAgainst.data.toList.drop 0) [(0, 4), (3, 0), (0, 1), (0, 10), (0, 13), (4, 2), (0, 8), (4, 0), (0, 4), (3, 0), (0, 1), (0, 10), (0, 20), (0, 1)] = some [(0, .aload_n 0, 1), (1, .getfield 18, 3), (4, .iload_n 1, 1), (5, .iaload, 1), (6, .iconst (-1), 1), (7, .if_icmp .ne 7, 3), (10, .iconst 0, 1), (11, .goto 9, 3), (14, .aload_n 0, 1), (15, .getfield 21, 3), (18, .iload_n 1, 1), (19, .iaload, 1), (20, .istore_n 2, 1), (21, .iload_n 1, 1)] := by decide +kernel
theorem dX1_strengthAgainst_0 : decode cX1_strengthAgainst 0 = .ok (.aload_n 0, 1) := dz_at dqX1_strengthAgainst_p050 0 rfl
theorem dX1_strengthAgainst_1 : decode cX1_strengthAgainst 1 = .ok (.getfield 18, 3) := dz_at dqX1_strengthAgainst_p050 1 rfl
theorem dX1_strengthAgainst_4 : decode cX1_strengthAgainst 4 = .ok (.iload_n 1, 1) := dz_at dqX1_strengthAgainst_p050 2 rfl
theorem dX1_strengthAgainst_5 : decode cX1_strengthAgainst 5 = .ok (.iaload, 1) := dz_at dqX1_strengthAgainst_p050 3 rfl
theorem dX1_strengthAgainst_6 : decode cX1_strengthAgainst 6 = .ok (.iconst (-1), 1) := dz_at dqX1_strengthAgainst_p050 4 rfl
theorem dX1_strengthAgainst_7 : decode cX1_strengthAgainst 7 = .ok (.if_icmp .ne 7, 3) := dz_at dqX1_strengthAgainst_p050 5 rfl
theorem dX1_strengthAgainst_10 : decode cX1_strengthAgainst 10 = .ok (.iconst 0, 1) := dz_at dqX1_strengthAgainst_p050 6 rfl
theorem dX1_strengthAgainst_11 : decode cX1_strengthAgainst 11 = .ok (.goto 9, 3) := dz_at dqX1_strengthAgainst_p050 7 rfl
theorem dX1_strengthAgainst_14 : decode cX1_strengthAgainst 14 = .ok (.aload_n 0, 1) := dz_at dqX1_strengthAgainst_p050 8 rfl
theorem dX1_strengthAgainst_15 : decode cX1_strengthAgainst 15 = .ok (.getfield 21, 3) := dz_at dqX1_strengthAgainst_p050 9 rfl
theorem dX1_strengthAgainst_18 : decode cX1_strengthAgainst 18 = .ok (.iload_n 1, 1) := dz_at dqX1_strengthAgainst_p050 10 rfl
theorem dX1_strengthAgainst_19 : decode cX1_strengthAgainst 19 = .ok (.iaload, 1) := dz_at dqX1_strengthAgainst_p050 11 rfl
theorem dX1_strengthAgainst_20 : decode cX1_strengthAgainst 20 = .ok (.istore_n 2, 1) := dz_at dqX1_strengthAgainst_p050 12 rfl
theorem dX1_strengthAgainst_21 : decode cX1_strengthAgainst 21 = .ok (.iload_n 1, 1) := dz_at dqX1_strengthAgainst_p050 13 rfl
set_option maxRecDepth 20000 in
theorem dqX1_strengthAgainst_p051 : dz_rn 22 (cX1_strengthAgainst.data.toList.drop 22) [(0, 1), (2, 0), (0, 30), (0, 26), (0, 21), (0, 3), (1, 1), (1, 0), (0, 3), (2, 0), (0, 11), (4, 4), (0, 4), (1, 0)] = some [(22, .iload_n 1, 1), (23, .bipush 6, 2), (25, .irem, 1), (26, .isub, 1), (27, .istore_n 3, 1), (28, .iload_n 3, 1), (29, .istore 4, 2), (31, .iload 4, 2), (33, .iload_n 3, 1), (34, .bipush 6, 2), (36, .iadd, 1), (37, .if_icmp .ge 29, 3), (40, .aload_n 0, 1), (41, .iload 4, 2)] := by decide +kernel
theorem dX1_strengthAgainst_22 : decode cX1_strengthAgainst 22 = .ok (.iload_n 1, 1) := dz_at dqX1_strengthAgainst_p051 0 rfl
theorem dX1_strengthAgainst_23 : decode cX1_strengthAgainst 23 = .ok (.bipush 6, 2) := dz_at dqX1_strengthAgainst_p051 1 rfl
theorem dX1_strengthAgainst_25 : decode cX1_strengthAgainst 25 = .ok (.irem, 1) := dz_at dqX1_strengthAgainst_p051 2 rfl
theorem dX1_strengthAgainst_26 : decode cX1_strengthAgainst 26 = .ok (.isub, 1) := dz_at dqX1_strengthAgainst_p051 3 rfl
theorem dX1_strengthAgainst_27 : decode cX1_strengthAgainst 27 = .ok (.istore_n 3, 1) := dz_at dqX1_strengthAgainst_p051 4 rfl
theorem dX1_strengthAgainst_28 : decode cX1_strengthAgainst 28 = .ok (.iload_n 3, 1) := dz_at dqX1_strengthAgainst_p051 5 rfl
theorem dX1_strengthAgainst_29 : decode cX1_strengthAgainst 29 = .ok (.istore 4, 2) := dz_at dqX1_strengthAgainst_p051 6 rfl
theorem dX1_strengthAgainst_31 : decode cX1_strengthAgainst 31 = .ok (.iload 4, 2) := dz_at dqX1_strengthAgainst_p051 7 rfl
theorem dX1_strengthAgainst_33 : decode cX1_strengthAgainst 33 = .ok (.iload_n 3, 1) := dz_at dqX1_strengthAgainst_p051 8 rfl
theorem dX1_strengthAgainst_34 : decode cX1_strengthAgainst 34 = .ok (.bipush 6, 2) := dz_at dqX1_strengthAgainst_p051 9 rfl
theorem dX1_strengthAgainst_36 : decode cX1_strengthAgainst 36 = .ok (.iadd, 1) := dz_at dqX1_strengthAgainst_p051 10 rfl
theorem dX1_strengthAgainst_37 : decode cX1_strengthAgainst 37 = .ok (.if_icmp .ge 29, 3) := dz_at dqX1_strengthAgainst_p051 11 rfl
theorem dX1_strengthAgainst_40 : decode cX1_strengthAgainst 40 = .ok (.aload_n 0, 1) := dz_at dqX1_strengthAgainst_p051 12 rfl
theorem dX1_strengthAgainst_41 : decode cX1_strengthAgainst 41 = .ok (.iload 4, 2) := dz_at dqX1_strengthAgainst_p051 13 rfl
set_option maxRecDepth 20000 in
theorem dqX1_strengthAgainst_p052 : dz_rn 43 (cX1_strengthAgainst.data.toList.drop 43) [(0, 1), (3, 1), (4, 7), (0, 2), (0, 4), (3, 0), (1, 0), (0, 10), (0, 11), (0, 20), (5, 0), (4, 0), (0, 2), (0, 12)] = some [(43, .iload_n 1, 1), (44, .invokevirtual 79, 3), (47, .ifCond .eq 13, 3), (50, .iload_n 2, 1), (51, .aload_n 0, 1), (52, .getfield 15, 3), (55, .iload 4, 2), (57, .iaload, 1), (58, .iadd, 1), (59, .istore_n 2, 1), (60, .iinc 4 1, 3), (63, .goto (-32), 3), (66, .iload_n 2, 1), (67, .ireturn, 1)] := by decide +kernel
theorem dX1_strengthAgainst_43 : decode cX1_strengthAgainst 43 = .ok (.iload_n 1, 1) := dz_at dqX1_strengthAgainst_p052 0 rfl
theorem dX1_strengthAgainst_44 : decode cX1_strengthAgainst 44 = .ok (.invokevirtual 79, 3) := dz_at dqX1_strengthAgainst_p052 1 rfl
theorem dX1_strengthAgainst_47 : decode cX1_strengthAgainst 47 = .ok (.ifCond .eq 13, 3) := dz_at dqX1_strengthAgainst_p052 2 rfl
theorem dX1_strengthAgainst_50 : decode cX1_strengthAgainst 50 = .ok (.iload_n 2, 1) := dz_at dqX1_strengthAgainst_p052 3 rfl
theorem dX1_strengthAgainst_51 : decode cX1_strengthAgainst 51 = .ok (.aload_n 0, 1) := dz_at dqX1_strengthAgainst_p052 4 rfl
theorem dX1_strengthAgainst_52 : decode cX1_strengthAgainst 52 = .ok (.getfield 15, 3) := dz_at dqX1_strengthAgainst_p052 5 rfl
theorem dX1_strengthAgainst_55 : decode cX1_strengthAgainst 55 = .ok (.iload 4, 2) := dz_at dqX1_strengthAgainst_p052 6 rfl
theorem dX1_strengthAgainst_57 : decode cX1_strengthAgainst 57 = .ok (.iaload, 1) := dz_at dqX1_strengthAgainst_p052 7 rfl
theorem dX1_strengthAgainst_58 : decode cX1_strengthAgainst 58 = .ok (.iadd, 1) := dz_at dqX1_strengthAgainst_p052 8 rfl
theorem dX1_strengthAgainst_59 : decode cX1_strengthAgainst 59 = .ok (.istore_n 2, 1) := dz_at dqX1_strengthAgainst_p052 9 rfl
theorem dX1_strengthAgainst_60 : decode cX1_strengthAgainst 60 = .ok (.iinc 4 1, 3) := dz_at dqX1_strengthAgainst_p052 10 rfl
theorem dX1_strengthAgainst_63 : decode cX1_strengthAgainst 63 = .ok (.goto (-32), 3) := dz_at dqX1_strengthAgainst_p052 11 rfl
theorem dX1_strengthAgainst_66 : decode cX1_strengthAgainst 66 = .ok (.iload_n 2, 1) := dz_at dqX1_strengthAgainst_p052 12 rfl
theorem dX1_strengthAgainst_67 : decode cX1_strengthAgainst 67 = .ok (.ireturn, 1) := dz_at dqX1_strengthAgainst_p052 13 rfl
set_option maxRecDepth 20000 in
theorem dqX1_nextOnTop_p050 : dz_rn 0 (cX1_nextOnTop.data.toList.drop 0) [(0, 1), (0, 1), (2, 0), (0, 30), (0, 26), (0, 21), (0, 1), (0, 2), (0, 11), (1, 1), (0, 8), (1, 1), (1, 0), (2, 0)] = some [(0, .iload_n 1, 1), (1, .iload_n 1, 1), (2, .bipush 6, 2), (4, .irem, 1), (5, .isub, 1), (6, .istore_n 3, 1), (7, .iload_n 1, 1), (8, .iload_n 2, 1), (9, .iadd, 1), (10, .istore 4, 2), (12, .iconst 0, 1), (13, .istore 5, 2), (15, .iload 5, 2), (17, .bipush 6, 2)] := by decide +kernel
theorem dX1_nextOnTop_0 : decode cX1_nextOnTop 0 = .ok (.iload_n 1, 1) := dz_at dqX1_nextOnTop_p050 0 rfl
theorem dX1_nextOnTop_1 : decode cX1_nextOnTop 1 = .ok (.iload_n 1, 1) := dz_at dqX1_nextOnTop_p050 1 rfl
theorem dX1_nextOnTop_2 : decode cX1_nextOnTop 2 = .ok (.bipush 6, 2) := dz_at dqX1_nextOnTop_p050 2 rfl
theorem dX1_nextOnTop_4 : decode cX1_nextOnTop 4 = .ok (.irem, 1) := dz_at dqX1_nextOnTop_p050 3 rfl
theorem dX1_nextOnTop_5 : decode cX1_nextOnTop 5 = .ok (.isub, 1) := dz_at dqX1_nextOnTop_p050 4 rfl
theorem dX1_nextOnTop_6 : decode cX1_nextOnTop 6 = .ok (.istore_n 3, 1) := dz_at dqX1_nextOnTop_p050 5 rfl
theorem dX1_nextOnTop_7 : decode cX1_nextOnTop 7 = .ok (.iload_n 1, 1) := dz_at dqX1_nextOnTop_p050 6 rfl
theorem dX1_nextOnTop_8 : decode cX1_nextOnTop 8 = .ok (.iload_n 2, 1) := dz_at dqX1_nextOnTop_p050 7 rfl
theorem dX1_nextOnTop_9 : decode cX1_nextOnTop 9 = .ok (.iadd, 1) := dz_at dqX1_nextOnTop_p050 8 rfl
theorem dX1_nextOnTop_10 : decode cX1_nextOnTop 10 = .ok (.istore 4, 2) := dz_at dqX1_nextOnTop_p050 9 rfl
theorem dX1_nextOnTop_12 : decode cX1_nextOnTop 12 = .ok (.iconst 0, 1) := dz_at dqX1_nextOnTop_p050 10 rfl
theorem dX1_nextOnTop_13 : decode cX1_nextOnTop 13 = .ok (.istore 5, 2) := dz_at dqX1_nextOnTop_p050 11 rfl
theorem dX1_nextOnTop_15 : decode cX1_nextOnTop 15 = .ok (.iload 5, 2) := dz_at dqX1_nextOnTop_p050 12 rfl
theorem dX1_nextOnTop_17 : decode cX1_nextOnTop 17 = .ok (.bipush 6, 2) := dz_at dqX1_nextOnTop_p050 13 rfl
set_option maxRecDepth 20000 in
theorem dqX1_nextOnTop_p051 : dz_rn 19 (cX1_nextOnTop.data.toList.drop 19) [(4, 4), (1, 0), (0, 3), (4, 3), (1, 0), (0, 3), (2, 0), (0, 11), (4, 3), (0, 13), (0, 12), (0, 4), (3, 0), (1, 0)] = some [(19, .if_icmp .ge 51, 3), (22, .iload 4, 2), (24, .iload_n 3, 1), (25, .if_icmp .lt 12, 3), (28, .iload 4, 2), (30, .iload_n 3, 1), (31, .bipush 6, 2), (33, .iadd, 1), (34, .if_icmp .lt 5, 3), (37, .iconst (-1), 1), (38, .ireturn, 1), (39, .aload_n 0, 1), (40, .getfield 9, 3), (43, .iload 4, 2)] := by decide +kernel
theorem dX1_nextOnTop_19 : decode cX1_nextOnTop 19 = .ok (.if_icmp .ge 51, 3) := dz_at dqX1_nextOnTop_p051 0 rfl
theorem dX1_nextOnTop_22 : decode cX1_nextOnTop 22 = .ok (.iload 4, 2) := dz_at dqX1_nextOnTop_p051 1 rfl
theorem dX1_nextOnTop_24 : decode cX1_nextOnTop 24 = .ok (.iload_n 3, 1) := dz_at dqX1_nextOnTop_p051 2 rfl
theorem dX1_nextOnTop_25 : decode cX1_nextOnTop 25 = .ok (.if_icmp .lt 12, 3) := dz_at dqX1_nextOnTop_p051 3 rfl
theorem dX1_nextOnTop_28 : decode cX1_nextOnTop 28 = .ok (.iload 4, 2) := dz_at dqX1_nextOnTop_p051 4 rfl
theorem dX1_nextOnTop_30 : decode cX1_nextOnTop 30 = .ok (.iload_n 3, 1) := dz_at dqX1_nextOnTop_p051 5 rfl
theorem dX1_nextOnTop_31 : decode cX1_nextOnTop 31 = .ok (.bipush 6, 2) := dz_at dqX1_nextOnTop_p051 6 rfl
theorem dX1_nextOnTop_33 : decode cX1_nextOnTop 33 = .ok (.iadd, 1) := dz_at dqX1_nextOnTop_p051 7 rfl
theorem dX1_nextOnTop_34 : decode cX1_nextOnTop 34 = .ok (.if_icmp .lt 5, 3) := dz_at dqX1_nextOnTop_p051 8 rfl
theorem dX1_nextOnTop_37 : decode cX1_nextOnTop 37 = .ok (.iconst (-1), 1) := dz_at dqX1_nextOnTop_p051 9 rfl
theorem dX1_nextOnTop_38 : decode cX1_nextOnTop 38 = .ok (.ireturn, 1) := dz_at dqX1_nextOnTop_p051 10 rfl
theorem dX1_nextOnTop_39 : decode cX1_nextOnTop 39 = .ok (.aload_n 0, 1) := dz_at dqX1_nextOnTop_p051 11 rfl
theorem dX1_nextOnTop_40 : decode cX1_nextOnTop 40 = .ok (.getfield 9, 3) := dz_at dqX1_nextOnTop_p051 12 rfl
theorem dX1_nextOnTop_43 : decode cX1_nextOnTop 43 = .ok (.iload 4, 2) := dz_at dqX1_nextOnTop_p051 13 rfl
set_option maxRecDepth 20000 in
theorem dqX1_nextOnTop_p052 : dz_rn 45 (cX1_nextOnTop.data.toList.drop 45) [(0, 10), (0, 13), (4, 1), (0, 4), (3, 0), (1, 0), (0, 10), (0, 12), (1, 0), (0, 2), (0, 11), (1, 1), (5, 0), (4, 0)] = some [(45, .iaload, 1), (46, .iconst (-1), 1), (47, .if_icmp .eq 11, 3), (50, .aload_n 0, 1), (51, .getfield 9, 3), (54, .iload 4, 2), (56, .iaload, 1), (57, .ireturn, 1), (58, .iload 4, 2), (60, .iload_n 2, 1), (61, .iadd, 1), (62, .istore 4, 2), (64, .iinc 5 1, 3), (67, .goto (-52), 3)] := by decide +kernel
theorem dX1_nextOnTop_45 : decode cX1_nextOnTop 45 = .ok (.iaload, 1) := dz_at dqX1_nextOnTop_p052 0 rfl
theorem dX1_nextOnTop_46 : decode cX1_nextOnTop 46 = .ok (.iconst (-1), 1) := dz_at dqX1_nextOnTop_p052 1 rfl
theorem dX1_nextOnTop_47 : decode cX1_nextOnTop 47 = .ok (.if_icmp .eq 11, 3) := dz_at dqX1_nextOnTop_p052 2 rfl
theorem dX1_nextOnTop_50 : decode cX1_nextOnTop 50 = .ok (.aload_n 0, 1) := dz_at dqX1_nextOnTop_p052 3 rfl
theorem dX1_nextOnTop_51 : decode cX1_nextOnTop 51 = .ok (.getfield 9, 3) := dz_at dqX1_nextOnTop_p052 4 rfl
theorem dX1_nextOnTop_54 : decode cX1_nextOnTop 54 = .ok (.iload 4, 2) := dz_at dqX1_nextOnTop_p052 5 rfl
theorem dX1_nextOnTop_56 : decode cX1_nextOnTop 56 = .ok (.iaload, 1) := dz_at dqX1_nextOnTop_p052 6 rfl
theorem dX1_nextOnTop_57 : decode cX1_nextOnTop 57 = .ok (.ireturn, 1) := dz_at dqX1_nextOnTop_p052 7 rfl
theorem dX1_nextOnTop_58 : decode cX1_nextOnTop 58 = .ok (.iload 4, 2) := dz_at dqX1_nextOnTop_p052 8 rfl
theorem dX1_nextOnTop_60 : decode cX1_nextOnTop 60 = .ok (.iload_n 2, 1) := dz_at dqX1_nextOnTop_p052 9 rfl
theorem dX1_nextOnTop_61 : decode cX1_nextOnTop 61 = .ok (.iadd, 1) := dz_at dqX1_nextOnTop_p052 10 rfl
theorem dX1_nextOnTop_62 : decode cX1_nextOnTop 62 = .ok (.istore 4, 2) := dz_at dqX1_nextOnTop_p052 11 rfl
theorem dX1_nextOnTop_64 : decode cX1_nextOnTop 64 = .ok (.iinc 5 1, 3) := dz_at dqX1_nextOnTop_p052 12 rfl
theorem dX1_nextOnTop_67 : decode cX1_nextOnTop 67 = .ok (.goto (-52), 3) := dz_at dqX1_nextOnTop_p052 13 rfl
set_option maxRecDepth 20000 in
theorem dqX1_nextOnTop_p053 : dz_rn 70 (cX1_nextOnTop.data.toList.drop 70) [(0, 13), (0, 12)] = some [(70, .iconst (-1), 1), (71, .ireturn, 1)] := by decide +kernel
theorem dX1_nextOnTop_70 : decode cX1_nextOnTop 70 = .ok (.iconst (-1), 1) := dz_at dqX1_nextOnTop_p053 0 rfl
theorem dX1_nextOnTop_71 : decode cX1_nextOnTop 71 = .ok (.ireturn, 1) := dz_at dqX1_nextOnTop_p053 1 rfl
set_option maxRecDepth 20000 in
theorem dqX1_allStrength_p050 : dz_rn 0 (cX1_allStrength.data.toList.drop 0) [(0, 8), (0, 19), (0, 8), (0, 20), (0, 2), (2, 0), (4, 4), (0, 4), (3, 0), (0, 2), (0, 10), (0, 13), (4, 1), (0, 1)] = some [(0, .iconst 0, 1), (1, .istore_n 1, 1), (2, .iconst 0, 1), (3, .istore_n 2, 1), (4, .iload_n 2, 1), (5, .bipush 48, 2), (7, .if_icmp .ge 28, 3), (10, .aload_n 0, 1), (11, .getfield 9, 3), (14, .iload_n 2, 1), (15, .iaload, 1), (16, .iconst (-1), 1), (17, .if_icmp .eq 12, 3), (20, .iload_n 1, 1)] := by decide +kernel
theorem dX1_allStrength_0 : decode cX1_allStrength 0 = .ok (.iconst 0, 1) := dz_at dqX1_allStrength_p050 0 rfl
theorem dX1_allStrength_1 : decode cX1_allStrength 1 = .ok (.istore_n 1, 1) := dz_at dqX1_allStrength_p050 1 rfl
theorem dX1_allStrength_2 : decode cX1_allStrength 2 = .ok (.iconst 0, 1) := dz_at dqX1_allStrength_p050 2 rfl
theorem dX1_allStrength_3 : decode cX1_allStrength 3 = .ok (.istore_n 2, 1) := dz_at dqX1_allStrength_p050 3 rfl
theorem dX1_allStrength_4 : decode cX1_allStrength 4 = .ok (.iload_n 2, 1) := dz_at dqX1_allStrength_p050 4 rfl
theorem dX1_allStrength_5 : decode cX1_allStrength 5 = .ok (.bipush 48, 2) := dz_at dqX1_allStrength_p050 5 rfl
theorem dX1_allStrength_7 : decode cX1_allStrength 7 = .ok (.if_icmp .ge 28, 3) := dz_at dqX1_allStrength_p050 6 rfl
theorem dX1_allStrength_10 : decode cX1_allStrength 10 = .ok (.aload_n 0, 1) := dz_at dqX1_allStrength_p050 7 rfl
theorem dX1_allStrength_11 : decode cX1_allStrength 11 = .ok (.getfield 9, 3) := dz_at dqX1_allStrength_p050 8 rfl
theorem dX1_allStrength_14 : decode cX1_allStrength 14 = .ok (.iload_n 2, 1) := dz_at dqX1_allStrength_p050 9 rfl
theorem dX1_allStrength_15 : decode cX1_allStrength 15 = .ok (.iaload, 1) := dz_at dqX1_allStrength_p050 10 rfl
theorem dX1_allStrength_16 : decode cX1_allStrength 16 = .ok (.iconst (-1), 1) := dz_at dqX1_allStrength_p050 11 rfl
theorem dX1_allStrength_17 : decode cX1_allStrength 17 = .ok (.if_icmp .eq 12, 3) := dz_at dqX1_allStrength_p050 12 rfl
theorem dX1_allStrength_20 : decode cX1_allStrength 20 = .ok (.iload_n 1, 1) := dz_at dqX1_allStrength_p050 13 rfl
set_option maxRecDepth 20000 in
theorem dqX1_allStrength_p051 : dz_rn 21 (cX1_allStrength.data.toList.drop 21) [(0, 4), (3, 0), (0, 2), (0, 10), (0, 11), (0, 19), (5, 0), (4, 0), (0, 1), (0, 12)] = some [(21, .aload_n 0, 1), (22, .getfield 15, 3), (25, .iload_n 2, 1), (26, .iaload, 1), (27, .iadd, 1), (28, .istore_n 1, 1), (29, .iinc 2 1, 3), (32, .goto (-28), 3), (35, .iload_n 1, 1), (36, .ireturn, 1)] := by decide +kernel
theorem dX1_allStrength_21 : decode cX1_allStrength 21 = .ok (.aload_n 0, 1) := dz_at dqX1_allStrength_p051 0 rfl
theorem dX1_allStrength_22 : decode cX1_allStrength 22 = .ok (.getfield 15, 3) := dz_at dqX1_allStrength_p051 1 rfl
theorem dX1_allStrength_25 : decode cX1_allStrength 25 = .ok (.iload_n 2, 1) := dz_at dqX1_allStrength_p051 2 rfl
theorem dX1_allStrength_26 : decode cX1_allStrength 26 = .ok (.iaload, 1) := dz_at dqX1_allStrength_p051 3 rfl
theorem dX1_allStrength_27 : decode cX1_allStrength 27 = .ok (.iadd, 1) := dz_at dqX1_allStrength_p051 4 rfl
theorem dX1_allStrength_28 : decode cX1_allStrength 28 = .ok (.istore_n 1, 1) := dz_at dqX1_allStrength_p051 5 rfl
theorem dX1_allStrength_29 : decode cX1_allStrength 29 = .ok (.iinc 2 1, 3) := dz_at dqX1_allStrength_p051 6 rfl
theorem dX1_allStrength_32 : decode cX1_allStrength 32 = .ok (.goto (-28), 3) := dz_at dqX1_allStrength_p051 7 rfl
theorem dX1_allStrength_35 : decode cX1_allStrength 35 = .ok (.iload_n 1, 1) := dz_at dqX1_allStrength_p051 8 rfl
theorem dX1_allStrength_36 : decode cX1_allStrength 36 = .ok (.ireturn, 1) := dz_at dqX1_allStrength_p051 9 rfl
set_option maxHeartbeats 4000000 in
set_option maxRecDepth 100000 in
theorem k_X1_gainOf (l : Launch) (dC : Nat → ClassId) (dI : Nat → Nat → Nat) (cI cZ cQ : ClassId) (a : Nat → Nat) (top : Nat → Int32) (str : Nat → Int32) (gho : Nat → Int32) (ghs : Nat → Int32) (pto : Nat → Int32) (cro : Nat → Int32) (pla : Nat → Int32) (wal : Nat → Int32) (fal : Nat → Int32) (tel : Int32) (gai : Int32) (day : Int32) (mar : Nat → Int32) (fr : Int32) (r_top : rg 48 (-1) (23) top) (r_str : rg 48 (0) (100) str) (r_gho : rg 48 (-1) (23) gho) (r_ghs : rg 48 (0) (100) ghs) (r_cro : rg 48 (0) (6) cro) (r_pla : rg 24 (-1) (47) pla) (r_fal : rg 11 (0) (30) fal) (r_gai : 0 ≤ gai.toInt ∧ gai.toInt ≤ 100) (r_day : 0 ≤ day.toInt ∧ day.toInt ≤ 400) (r_mar : rg 24 (0) (255) mar) (q0 : 0 ≤ fr.toInt) (q1 : fr.toInt ≤ 100) : KR l yX1_gainOf wsX1_gainOf { frames := 0, cells := 0, slots := 0, locals := 0 } (dC, dI) (TY cI cZ cQ) (wCor cI cZ cQ a top str gho ghs pto cro pla wal fal tel gai day mar) [.ref (a 4), .int fr] (fun r : Int32 => (0 ≤ r.toInt) ∧ (r.toInt ≤ 100 - fr.toInt) ∧ (r.toInt ≤ 100)) := by
  refine Met.ofW (cc := cX1_gainOf) (maxL := 2) (ret := (some .int)) (by decide) rfl ?_
  intro p e s m args below meth c s₁ B hml hv
  obtain ⟨rfl, hP, hK, hN⟩ := hv
  have hx := B.exec
  have hb := B.bytes
  have hr := B.returns
  have hts := atoms_spec (ws := wsX1_gainOf) B.pre
  have hown : s.vm.findClass RX1 = some m.cls := findClass_of_methodNamed B.named
  have hlocks := B.notSynchronized
  have lf43 := hts (.fieldLink RX1 43 "PalaceOfRooms$Corners" "gain" "I") (List.mem_cons_of_mem _ (List.mem_append_left _ (List.mem_of_getElem? (i := 0) rfl)))
  have inX1 : ∀ w ∈ wsX10, w ∈ wsX1_gainOf := fun w h => List.mem_cons_of_mem _ (List.mem_append_right _ h)
  have hl := lv_entry ([.ref (a 4), .int fr]) (n := 2) (Nat.le_of_ble_eq_true rfl)
  rw [lg_entry_eq]
  generalize (lg_sl ([.ref (a 4), .int fr]) ++ List.replicate (2 - (lg_sl ([.ref (a 4), .int fr])).length) Slot.unset).toArray = ls at hl ⊢
  have hl : lv_has ls 2 [(0, .ref (a 4)), (1, .int fr)] := hl
  refine lv_bipush (v := 100) hx hb dX1_gainOf_0 (by decide) ?_
  refine lv_iload_n hx hb dX1_gainOf_2 rfl (lv_at hl 1 rfl) ?_
  refine lv_isub hx hb dX1_gainOf_3 ?_
  have f1 : (100 - fr).toInt = (100) - (fr.toInt) := subC (show (100 : Int32).toInt = 100 from rfl) rfl (by omega) (by omega)
  refine lv_aload_n hx hb dX1_gainOf_4 rfl (lv_at hl 0 rfl) ?_
  refine va_get (D := (dC, dI)) (ci := 1) (v := .int gai) (C := RX1) (T := TX1) (N := 13) hx hb hts inX1 hown hK hP 0 rfl rfl 11 (by decide) lf43 (fun _ h9 => h9) rfl dX1_gainOf_5 ?_
  refine lv_imul hx hb dX1_gainOf_8 ?_
  obtain ⟨f2, f2_1, f2_2⟩ := mulB (a := (100 - fr)) (b := gai) (A := (100) - (fr.toInt)) (B := gai.toInt) (p := 100) (q := 100) f1 rfl (by omega) (by omega) (by omega) (by omega) (by decide)
  refine lv_bipush (v := 100) hx hb dX1_gainOf_9 (by decide) ?_
  refine lv_idiv hx hb dX1_gainOf_11 (by decide) ?_
  have f3 : (((100 - fr) * gai) / 100).toInt = (((100) - (fr.toInt)) * (gai.toInt)) / (100) := divC f2 (show (100 : Int32).toInt = 100 from rfl) (by omega) (by omega)
  exact W.iret (v := ((100 - fr) * gai) / 100) hx hb hr (fun t ht hW => ⟨((100 - fr) * gai) / 100, rfl, ⟨(show 0 ≤ (((100 - fr) * gai) / 100).toInt from by (try rw [show (((100 - fr) * gai) / 100).toInt = (((100) - (fr.toInt)) * (gai.toInt)) / (100) from f3]); omega), (show (((100 - fr) * gai) / 100).toInt ≤ 100 - fr.toInt from by (try rw [show (((100 - fr) * gai) / 100).toInt = (((100) - (fr.toInt)) * (gai.toInt)) / (100) from f3]); omega), (show (((100 - fr) * gai) / 100).toInt ≤ 100 from by (try rw [show (((100 - fr) * gai) / 100).toInt = (((100) - (fr.toInt)) * (gai.toInt)) / (100) from f3]); omega)⟩, ht⟩) (fun q h => by cases h) dX1_gainOf_12
end
section
set_option maxRecDepth 20000 in
theorem ggX5_init_X5_forget : GoodIn wsX5_init wsX5_forget := goodIn_r _ [11, 5, 6, 12, 13, 14, 15, 16, 17, 18, 19, 20, 21, 22, 23] rfl (by decide +kernel)
set_option maxRecDepth 20000 in
theorem gX5_init_X5_forget : GoodIn wsX5_init (wsV RX5 18 RX5 yX5_forget wsX5_forget) := goodIn_app (goodIn_of _ (by decide +kernel)) ggX5_init_X5_forget
set_option maxRecDepth 20000 in
theorem dqX5_init_p060 : dz_rn 0 (cX5_init.data.toList.drop 0) [(0, 4), (3, 5), (0, 4), (2, 0)] = some [(0, .aload_n 0, 1), (1, .invokespecial 3, 3), (4, .aload_n 0, 1), (5, .bipush 8, 2)] := by decide +kernel
theorem dX5_init_0 : decode cX5_init 0 = .ok (.aload_n 0, 1) := dz_at dqX5_init_p060 0 rfl
theorem dX5_init_1 : decode cX5_init 1 = .ok (.invokespecial 3, 3) := dz_at dqX5_init_p060 1 rfl
theorem dX5_init_4 : decode cX5_init 4 = .ok (.aload_n 0, 1) := dz_at dqX5_init_p060 2 rfl
theorem dX5_init_5 : decode cX5_init 5 = .ok (.bipush 8, 2) := dz_at dqX5_init_p060 3 rfl
theorem dX5_init_7 : decode cX5_init 7 = .ok (.newarray .int, 2) := by decide +kernel
set_option maxRecDepth 20000 in
theorem dqX5_init_p061 : dz_rn 9 (cX5_init.data.toList.drop 9) [(3, 3), (0, 4), (2, 0)] = some [(9, .putfield 9, 3), (12, .aload_n 0, 1), (13, .bipush 8, 2)] := by decide +kernel
theorem dX5_init_9 : decode cX5_init 9 = .ok (.putfield 9, 3) := dz_at dqX5_init_p061 0 rfl
theorem dX5_init_12 : decode cX5_init 12 = .ok (.aload_n 0, 1) := dz_at dqX5_init_p061 1 rfl
theorem dX5_init_13 : decode cX5_init 13 = .ok (.bipush 8, 2) := dz_at dqX5_init_p061 2 rfl
theorem dX5_init_15 : decode cX5_init 15 = .ok (.newarray .int, 2) := by decide +kernel
set_option maxRecDepth 20000 in
theorem dqX5_init_p062 : dz_rn 17 (cX5_init.data.toList.drop 17) [(3, 3), (0, 4), (3, 1), (0, 25)] = some [(17, .putfield 15, 3), (20, .aload_n 0, 1), (21, .invokevirtual 18, 3), (24, .return_, 1)] := by decide +kernel
theorem dX5_init_17 : decode cX5_init 17 = .ok (.putfield 15, 3) := dz_at dqX5_init_p062 0 rfl
theorem dX5_init_20 : decode cX5_init 20 = .ok (.aload_n 0, 1) := dz_at dqX5_init_p062 1 rfl
theorem dX5_init_21 : decode cX5_init 21 = .ok (.invokevirtual 18, 3) := dz_at dqX5_init_p062 2 rfl
theorem dX5_init_24 : decode cX5_init 24 = .ok (.return_, 1) := dz_at dqX5_init_p062 3 rfl
set_option maxRecDepth 20000 in
theorem ggX5_forget_J7_fill_53178 : GoodIn wsX5_forget wsJ7_fill_53178 := goodIn_r _ [9] rfl (by decide +kernel)
set_option maxRecDepth 20000 in
theorem gX5_forget_J7_fill_53178 : GoodIn wsX5_forget (va_wsS RX5 21 yJ7_fill_53178 wsJ7_fill_53178) := goodIn_app (goodIn_of _ (by decide +kernel)) ggX5_forget_J7_fill_53178
set_option maxRecDepth 20000 in
theorem dqX5_forget_p060 : dz_rn 0 (cX5_forget.data.toList.drop 0) [(0, 4), (3, 0), (0, 13), (3, 2), (0, 4), (3, 0), (0, 13), (3, 2), (0, 4), (0, 13), (3, 3), (0, 4), (0, 13), (3, 3)] = some [(0, .aload_n 0, 1), (1, .getfield 9, 3), (4, .iconst (-1), 1), (5, .invokestatic 21, 3), (8, .aload_n 0, 1), (9, .getfield 15, 3), (12, .iconst (-1), 1), (13, .invokestatic 21, 3), (16, .aload_n 0, 1), (17, .iconst (-1), 1), (18, .putfield 27, 3), (21, .aload_n 0, 1), (22, .iconst (-1), 1), (23, .putfield 31, 3)] := by decide +kernel
theorem dX5_forget_0 : decode cX5_forget 0 = .ok (.aload_n 0, 1) := dz_at dqX5_forget_p060 0 rfl
theorem dX5_forget_1 : decode cX5_forget 1 = .ok (.getfield 9, 3) := dz_at dqX5_forget_p060 1 rfl
theorem dX5_forget_4 : decode cX5_forget 4 = .ok (.iconst (-1), 1) := dz_at dqX5_forget_p060 2 rfl
theorem dX5_forget_5 : decode cX5_forget 5 = .ok (.invokestatic 21, 3) := dz_at dqX5_forget_p060 3 rfl
theorem dX5_forget_8 : decode cX5_forget 8 = .ok (.aload_n 0, 1) := dz_at dqX5_forget_p060 4 rfl
theorem dX5_forget_9 : decode cX5_forget 9 = .ok (.getfield 15, 3) := dz_at dqX5_forget_p060 5 rfl
theorem dX5_forget_12 : decode cX5_forget 12 = .ok (.iconst (-1), 1) := dz_at dqX5_forget_p060 6 rfl
theorem dX5_forget_13 : decode cX5_forget 13 = .ok (.invokestatic 21, 3) := dz_at dqX5_forget_p060 7 rfl
theorem dX5_forget_16 : decode cX5_forget 16 = .ok (.aload_n 0, 1) := dz_at dqX5_forget_p060 8 rfl
theorem dX5_forget_17 : decode cX5_forget 17 = .ok (.iconst (-1), 1) := dz_at dqX5_forget_p060 9 rfl
theorem dX5_forget_18 : decode cX5_forget 18 = .ok (.putfield 27, 3) := dz_at dqX5_forget_p060 10 rfl
theorem dX5_forget_21 : decode cX5_forget 21 = .ok (.aload_n 0, 1) := dz_at dqX5_forget_p060 11 rfl
theorem dX5_forget_22 : decode cX5_forget 22 = .ok (.iconst (-1), 1) := dz_at dqX5_forget_p060 12 rfl
theorem dX5_forget_23 : decode cX5_forget 23 = .ok (.putfield 31, 3) := dz_at dqX5_forget_p060 13 rfl
set_option maxRecDepth 20000 in
theorem dqX5_forget_p061 : dz_rn 26 (cX5_forget.data.toList.drop 26) [(0, 4), (0, 8), (3, 3), (0, 25)] = some [(26, .aload_n 0, 1), (27, .iconst 0, 1), (28, .putfield 34, 3), (31, .return_, 1)] := by decide +kernel
theorem dX5_forget_26 : decode cX5_forget 26 = .ok (.aload_n 0, 1) := dz_at dqX5_forget_p061 0 rfl
theorem dX5_forget_27 : decode cX5_forget 27 = .ok (.iconst 0, 1) := dz_at dqX5_forget_p061 1 rfl
theorem dX5_forget_28 : decode cX5_forget 28 = .ok (.putfield 34, 3) := dz_at dqX5_forget_p061 2 rfl
theorem dX5_forget_31 : decode cX5_forget 31 = .ok (.return_, 1) := dz_at dqX5_forget_p061 3 rfl
set_option maxRecDepth 20000 in
theorem dqX5_cornersToUse_p060 : dz_rn 0 (cX5_cornersToUse.data.toList.drop 0) [(0, 4), (3, 0), (0, 1), (0, 10), (0, 13), (4, 2), (2, 0), (4, 0), (0, 4), (3, 0), (0, 1), (0, 10), (2, 0), (3, 2)] = some [(0, .aload_n 0, 1), (1, .getfield 9, 3), (4, .iload_n 1, 1), (5, .iaload, 1), (6, .iconst (-1), 1), (7, .if_icmp .ne 8, 3), (10, .bipush 6, 2), (12, .goto 14, 3), (15, .aload_n 0, 1), (16, .getfield 9, 3), (19, .iload_n 1, 1), (20, .iaload, 1), (21, .bipush 6, 2), (23, .invokestatic 37, 3)] := by decide +kernel
theorem dX5_cornersToUse_0 : decode cX5_cornersToUse 0 = .ok (.aload_n 0, 1) := dz_at dqX5_cornersToUse_p060 0 rfl
theorem dX5_cornersToUse_1 : decode cX5_cornersToUse 1 = .ok (.getfield 9, 3) := dz_at dqX5_cornersToUse_p060 1 rfl
theorem dX5_cornersToUse_4 : decode cX5_cornersToUse 4 = .ok (.iload_n 1, 1) := dz_at dqX5_cornersToUse_p060 2 rfl
theorem dX5_cornersToUse_5 : decode cX5_cornersToUse 5 = .ok (.iaload, 1) := dz_at dqX5_cornersToUse_p060 3 rfl
theorem dX5_cornersToUse_6 : decode cX5_cornersToUse 6 = .ok (.iconst (-1), 1) := dz_at dqX5_cornersToUse_p060 4 rfl
theorem dX5_cornersToUse_7 : decode cX5_cornersToUse 7 = .ok (.if_icmp .ne 8, 3) := dz_at dqX5_cornersToUse_p060 5 rfl
theorem dX5_cornersToUse_10 : decode cX5_cornersToUse 10 = .ok (.bipush 6, 2) := dz_at dqX5_cornersToUse_p060 6 rfl
theorem dX5_cornersToUse_12 : decode cX5_cornersToUse 12 = .ok (.goto 14, 3) := dz_at dqX5_cornersToUse_p060 7 rfl
theorem dX5_cornersToUse_15 : decode cX5_cornersToUse 15 = .ok (.aload_n 0, 1) := dz_at dqX5_cornersToUse_p060 8 rfl
theorem dX5_cornersToUse_16 : decode cX5_cornersToUse 16 = .ok (.getfield 9, 3) := dz_at dqX5_cornersToUse_p060 9 rfl
theorem dX5_cornersToUse_19 : decode cX5_cornersToUse 19 = .ok (.iload_n 1, 1) := dz_at dqX5_cornersToUse_p060 10 rfl
theorem dX5_cornersToUse_20 : decode cX5_cornersToUse 20 = .ok (.iaload, 1) := dz_at dqX5_cornersToUse_p060 11 rfl
theorem dX5_cornersToUse_21 : decode cX5_cornersToUse 21 = .ok (.bipush 6, 2) := dz_at dqX5_cornersToUse_p060 12 rfl
theorem dX5_cornersToUse_23 : decode cX5_cornersToUse 23 = .ok (.invokestatic 37, 3) := dz_at dqX5_cornersToUse_p060 13 rfl
theorem dX5_cornersToUse_26 : decode cX5_cornersToUse 26 = .ok (.ireturn, 1) := by decide +kernel
set_option maxRecDepth 20000 in
theorem dqX4_init_p060 : dz_rn 0 (cX4_init.data.toList.drop 0) [(0, 4), (3, 5), (0, 4), (2, 0)] = some [(0, .aload_n 0, 1), (1, .invokespecial 5, 3), (4, .aload_n 0, 1), (5, .bipush 81, 2)] := by decide +kernel
theorem dX4_init_0 : decode cX4_init 0 = .ok (.aload_n 0, 1) := dz_at dqX4_init_p060 0 rfl
theorem dX4_init_1 : decode cX4_init 1 = .ok (.invokespecial 5, 3) := dz_at dqX4_init_p060 1 rfl
theorem dX4_init_4 : decode cX4_init 4 = .ok (.aload_n 0, 1) := dz_at dqX4_init_p060 2 rfl
theorem dX4_init_5 : decode cX4_init 5 = .ok (.bipush 81, 2) := dz_at dqX4_init_p060 3 rfl
theorem dX4_init_7 : decode cX4_init 7 = .ok (.newarray .int, 2) := by decide +kernel
set_option maxRecDepth 20000 in
theorem dqX4_init_p061 : dz_rn 9 (cX4_init.data.toList.drop 9) [(3, 3), (0, 25)] = some [(9, .putfield 11, 3), (12, .return_, 1)] := by decide +kernel
theorem dX4_init_9 : decode cX4_init 9 = .ok (.putfield 11, 3) := dz_at dqX4_init_p061 0 rfl
theorem dX4_init_12 : decode cX4_init 12 = .ok (.return_, 1) := dz_at dqX4_init_p061 1 rfl
set_option maxRecDepth 20000 in
theorem ggX4_note_X4_saysRight : GoodIn wsX4_note wsX4_saysRight := goodIn_r _ [6, 7, 8, 5, 9, 10, 11, 12] rfl (by decide +kernel)
set_option maxRecDepth 20000 in
theorem gX4_note_X4_saysRight : GoodIn wsX4_note (va_wsS RX4 15 yX4_saysRight wsX4_saysRight) := goodIn_app (goodIn_of _ (by decide +kernel)) ggX4_note_X4_saysRight
set_option maxRecDepth 20000 in
theorem dqX4_note_p060 : dz_rn 0 (cX4_note.data.toList.drop 0) [(0, 8), (0, 21), (0, 3), (2, 0), (4, 4), (0, 3), (0, 1), (3, 2), (0, 2), (4, 2), (0, 4), (3, 0), (0, 3), (0, 41)] = some [(0, .iconst 0, 1), (1, .istore_n 3, 1), (2, .iload_n 3, 1), (3, .bipush 81, 2), (5, .if_icmp .ge 28, 3), (8, .iload_n 3, 1), (9, .iload_n 1, 1), (10, .invokestatic 15, 3), (13, .iload_n 2, 1), (14, .if_icmp .ne 13, 3), (17, .aload_n 0, 1), (18, .getfield 11, 3), (21, .iload_n 3, 1), (22, .dup2, 1)] := by decide +kernel
theorem dX4_note_0 : decode cX4_note 0 = .ok (.iconst 0, 1) := dz_at dqX4_note_p060 0 rfl
theorem dX4_note_1 : decode cX4_note 1 = .ok (.istore_n 3, 1) := dz_at dqX4_note_p060 1 rfl
theorem dX4_note_2 : decode cX4_note 2 = .ok (.iload_n 3, 1) := dz_at dqX4_note_p060 2 rfl
theorem dX4_note_3 : decode cX4_note 3 = .ok (.bipush 81, 2) := dz_at dqX4_note_p060 3 rfl
theorem dX4_note_5 : decode cX4_note 5 = .ok (.if_icmp .ge 28, 3) := dz_at dqX4_note_p060 4 rfl
theorem dX4_note_8 : decode cX4_note 8 = .ok (.iload_n 3, 1) := dz_at dqX4_note_p060 5 rfl
theorem dX4_note_9 : decode cX4_note 9 = .ok (.iload_n 1, 1) := dz_at dqX4_note_p060 6 rfl
theorem dX4_note_10 : decode cX4_note 10 = .ok (.invokestatic 15, 3) := dz_at dqX4_note_p060 7 rfl
theorem dX4_note_13 : decode cX4_note 13 = .ok (.iload_n 2, 1) := dz_at dqX4_note_p060 8 rfl
theorem dX4_note_14 : decode cX4_note 14 = .ok (.if_icmp .ne 13, 3) := dz_at dqX4_note_p060 9 rfl
theorem dX4_note_17 : decode cX4_note 17 = .ok (.aload_n 0, 1) := dz_at dqX4_note_p060 10 rfl
theorem dX4_note_18 : decode cX4_note 18 = .ok (.getfield 11, 3) := dz_at dqX4_note_p060 11 rfl
theorem dX4_note_21 : decode cX4_note 21 = .ok (.iload_n 3, 1) := dz_at dqX4_note_p060 12 rfl
theorem dX4_note_22 : decode cX4_note 22 = .ok (.dup2, 1) := dz_at dqX4_note_p060 13 rfl
set_option maxRecDepth 20000 in
theorem dqX4_note_p061 : dz_rn 23 (cX4_note.data.toList.drop 23) [(0, 10), (0, 9), (0, 11), (0, 22), (5, 0), (4, 0), (0, 4), (0, 28), (3, 0), (0, 9), (0, 11), (3, 3), (0, 25)] = some [(23, .iaload, 1), (24, .iconst 1, 1), (25, .iadd, 1), (26, .iastore, 1), (27, .iinc 3 1, 3), (30, .goto (-28), 3), (33, .aload_n 0, 1), (34, .dup, 1), (35, .getfield 19, 3), (38, .iconst 1, 1), (39, .iadd, 1), (40, .putfield 19, 3), (43, .return_, 1)] := by decide +kernel
theorem dX4_note_23 : decode cX4_note 23 = .ok (.iaload, 1) := dz_at dqX4_note_p061 0 rfl
theorem dX4_note_24 : decode cX4_note 24 = .ok (.iconst 1, 1) := dz_at dqX4_note_p061 1 rfl
theorem dX4_note_25 : decode cX4_note 25 = .ok (.iadd, 1) := dz_at dqX4_note_p061 2 rfl
theorem dX4_note_26 : decode cX4_note 26 = .ok (.iastore, 1) := dz_at dqX4_note_p061 3 rfl
theorem dX4_note_27 : decode cX4_note 27 = .ok (.iinc 3 1, 3) := dz_at dqX4_note_p061 4 rfl
theorem dX4_note_30 : decode cX4_note 30 = .ok (.goto (-28), 3) := dz_at dqX4_note_p061 5 rfl
theorem dX4_note_33 : decode cX4_note 33 = .ok (.aload_n 0, 1) := dz_at dqX4_note_p061 6 rfl
theorem dX4_note_34 : decode cX4_note 34 = .ok (.dup, 1) := dz_at dqX4_note_p061 7 rfl
theorem dX4_note_35 : decode cX4_note 35 = .ok (.getfield 19, 3) := dz_at dqX4_note_p061 8 rfl
theorem dX4_note_38 : decode cX4_note 38 = .ok (.iconst 1, 1) := dz_at dqX4_note_p061 9 rfl
theorem dX4_note_39 : decode cX4_note 39 = .ok (.iadd, 1) := dz_at dqX4_note_p061 10 rfl
theorem dX4_note_40 : decode cX4_note 40 = .ok (.putfield 19, 3) := dz_at dqX4_note_p061 11 rfl
theorem dX4_note_43 : decode cX4_note 43 = .ok (.return_, 1) := dz_at dqX4_note_p061 12 rfl
set_option maxRecDepth 20000 in
theorem dqX4_lossOf_p060 : dz_rn 0 (cX4_lossOf.data.toList.drop 0) [(0, 0), (2, 0), (0, 27), (0, 9), (0, 11), (0, 12)] = some [(0, .iload_n 0, 1), (1, .bipush 9, 2), (3, .idiv, 1), (4, .iconst 1, 1), (5, .iadd, 1), (6, .ireturn, 1)] := by decide +kernel
theorem dX4_lossOf_0 : decode cX4_lossOf 0 = .ok (.iload_n 0, 1) := dz_at dqX4_lossOf_p060 0 rfl
theorem dX4_lossOf_1 : decode cX4_lossOf 1 = .ok (.bipush 9, 2) := dz_at dqX4_lossOf_p060 1 rfl
theorem dX4_lossOf_3 : decode cX4_lossOf 3 = .ok (.idiv, 1) := dz_at dqX4_lossOf_p060 2 rfl
theorem dX4_lossOf_4 : decode cX4_lossOf 4 = .ok (.iconst 1, 1) := dz_at dqX4_lossOf_p060 3 rfl
theorem dX4_lossOf_5 : decode cX4_lossOf 5 = .ok (.iadd, 1) := dz_at dqX4_lossOf_p060 4 rfl
theorem dX4_lossOf_6 : decode cX4_lossOf 6 = .ok (.ireturn, 1) := dz_at dqX4_lossOf_p060 5 rfl
set_option maxRecDepth 20000 in
theorem dqX4_limitOf_p060 : dz_rn 0 (cX4_limitOf.data.toList.drop 0) [(0, 0), (2, 0), (0, 30), (0, 9), (0, 11), (2, 0), (0, 23), (0, 12)] = some [(0, .iload_n 0, 1), (1, .bipush 9, 2), (3, .irem, 1), (4, .iconst 1, 1), (5, .iadd, 1), (6, .bipush 10, 2), (8, .imul, 1), (9, .ireturn, 1)] := by decide +kernel
theorem dX4_limitOf_0 : decode cX4_limitOf 0 = .ok (.iload_n 0, 1) := dz_at dqX4_limitOf_p060 0 rfl
theorem dX4_limitOf_1 : decode cX4_limitOf 1 = .ok (.bipush 9, 2) := dz_at dqX4_limitOf_p060 1 rfl
theorem dX4_limitOf_3 : decode cX4_limitOf 3 = .ok (.irem, 1) := dz_at dqX4_limitOf_p060 2 rfl
theorem dX4_limitOf_4 : decode cX4_limitOf 4 = .ok (.iconst 1, 1) := dz_at dqX4_limitOf_p060 3 rfl
theorem dX4_limitOf_5 : decode cX4_limitOf 5 = .ok (.iadd, 1) := dz_at dqX4_limitOf_p060 4 rfl
theorem dX4_limitOf_6 : decode cX4_limitOf 6 = .ok (.bipush 10, 2) := dz_at dqX4_limitOf_p060 5 rfl
theorem dX4_limitOf_8 : decode cX4_limitOf 8 = .ok (.imul, 1) := dz_at dqX4_limitOf_p060 6 rfl
theorem dX4_limitOf_9 : decode cX4_limitOf 9 = .ok (.ireturn, 1) := dz_at dqX4_limitOf_p060 7 rfl
set_option maxRecDepth 20000 in
theorem ggX4_saysRight_X4_lossOf : GoodIn wsX4_saysRight wsX4_lossOf := goodIn_r _ [4] rfl (by decide +kernel)
set_option maxRecDepth 20000 in
theorem gX4_saysRight_X4_lossOf : GoodIn wsX4_saysRight (va_wsS RX4 23 yX4_lossOf wsX4_lossOf) := goodIn_app (goodIn_of _ (by decide +kernel)) ggX4_saysRight_X4_lossOf
set_option maxRecDepth 20000 in
theorem ggX4_saysRight_X4_limitOf : GoodIn wsX4_saysRight wsX4_limitOf := goodIn_r _ [7] rfl (by decide +kernel)
set_option maxRecDepth 20000 in
theorem gX4_saysRight_X4_limitOf : GoodIn wsX4_saysRight (va_wsS RX4 27 yX4_limitOf wsX4_limitOf) := goodIn_app (goodIn_of _ (by decide +kernel)) ggX4_saysRight_X4_limitOf
set_option maxRecDepth 20000 in
theorem dqX4_saysRight_p060 : dz_rn 0 (cX4_saysRight.data.toList.drop 0) [(2, 0), (0, 0), (3, 2), (0, 1), (0, 23), (0, 26), (0, 0), (3, 2), (4, 3), (0, 9), (4, 0), (0, 8), (0, 12)] = some [(0, .bipush 100, 2), (2, .iload_n 0, 1), (3, .invokestatic 23, 3), (6, .iload_n 1, 1), (7, .imul, 1), (8, .isub, 1), (9, .iload_n 0, 1), (10, .invokestatic 27, 3), (13, .if_icmp .lt 7, 3), (16, .iconst 1, 1), (17, .goto 4, 3), (20, .iconst 0, 1), (21, .ireturn, 1)] := by decide +kernel
theorem dX4_saysRight_0 : decode cX4_saysRight 0 = .ok (.bipush 100, 2) := dz_at dqX4_saysRight_p060 0 rfl
theorem dX4_saysRight_2 : decode cX4_saysRight 2 = .ok (.iload_n 0, 1) := dz_at dqX4_saysRight_p060 1 rfl
theorem dX4_saysRight_3 : decode cX4_saysRight 3 = .ok (.invokestatic 23, 3) := dz_at dqX4_saysRight_p060 2 rfl
theorem dX4_saysRight_6 : decode cX4_saysRight 6 = .ok (.iload_n 1, 1) := dz_at dqX4_saysRight_p060 3 rfl
theorem dX4_saysRight_7 : decode cX4_saysRight 7 = .ok (.imul, 1) := dz_at dqX4_saysRight_p060 4 rfl
theorem dX4_saysRight_8 : decode cX4_saysRight 8 = .ok (.isub, 1) := dz_at dqX4_saysRight_p060 5 rfl
theorem dX4_saysRight_9 : decode cX4_saysRight 9 = .ok (.iload_n 0, 1) := dz_at dqX4_saysRight_p060 6 rfl
theorem dX4_saysRight_10 : decode cX4_saysRight 10 = .ok (.invokestatic 27, 3) := dz_at dqX4_saysRight_p060 7 rfl
theorem dX4_saysRight_13 : decode cX4_saysRight 13 = .ok (.if_icmp .lt 7, 3) := dz_at dqX4_saysRight_p060 8 rfl
theorem dX4_saysRight_16 : decode cX4_saysRight 16 = .ok (.iconst 1, 1) := dz_at dqX4_saysRight_p060 9 rfl
theorem dX4_saysRight_17 : decode cX4_saysRight 17 = .ok (.goto 4, 3) := dz_at dqX4_saysRight_p060 10 rfl
theorem dX4_saysRight_20 : decode cX4_saysRight 20 = .ok (.iconst 0, 1) := dz_at dqX4_saysRight_p060 11 rfl
theorem dX4_saysRight_21 : decode cX4_saysRight 21 = .ok (.ireturn, 1) := dz_at dqX4_saysRight_p060 12 rfl
set_option maxRecDepth 20000 in
theorem dqX4_mayBe_p060 : dz_rn 0 (cX4_mayBe.data.toList.drop 0) [(0, 4), (3, 0), (0, 1), (0, 10), (0, 4), (3, 0), (4, 2), (0, 9), (4, 0), (0, 8), (0, 12)] = some [(0, .aload_n 0, 1), (1, .getfield 11, 3), (4, .iload_n 1, 1), (5, .iaload, 1), (6, .aload_n 0, 1), (7, .getfield 19, 3), (10, .if_icmp .ne 7, 3), (13, .iconst 1, 1), (14, .goto 4, 3), (17, .iconst 0, 1), (18, .ireturn, 1)] := by decide +kernel
theorem dX4_mayBe_0 : decode cX4_mayBe 0 = .ok (.aload_n 0, 1) := dz_at dqX4_mayBe_p060 0 rfl
theorem dX4_mayBe_1 : decode cX4_mayBe 1 = .ok (.getfield 11, 3) := dz_at dqX4_mayBe_p060 1 rfl
theorem dX4_mayBe_4 : decode cX4_mayBe 4 = .ok (.iload_n 1, 1) := dz_at dqX4_mayBe_p060 2 rfl
theorem dX4_mayBe_5 : decode cX4_mayBe 5 = .ok (.iaload, 1) := dz_at dqX4_mayBe_p060 3 rfl
theorem dX4_mayBe_6 : decode cX4_mayBe 6 = .ok (.aload_n 0, 1) := dz_at dqX4_mayBe_p060 4 rfl
theorem dX4_mayBe_7 : decode cX4_mayBe 7 = .ok (.getfield 19, 3) := dz_at dqX4_mayBe_p060 5 rfl
theorem dX4_mayBe_10 : decode cX4_mayBe 10 = .ok (.if_icmp .ne 7, 3) := dz_at dqX4_mayBe_p060 6 rfl
theorem dX4_mayBe_13 : decode cX4_mayBe 13 = .ok (.iconst 1, 1) := dz_at dqX4_mayBe_p060 7 rfl
theorem dX4_mayBe_14 : decode cX4_mayBe 14 = .ok (.goto 4, 3) := dz_at dqX4_mayBe_p060 8 rfl
theorem dX4_mayBe_17 : decode cX4_mayBe 17 = .ok (.iconst 0, 1) := dz_at dqX4_mayBe_p060 9 rfl
theorem dX4_mayBe_18 : decode cX4_mayBe 18 = .ok (.ireturn, 1) := dz_at dqX4_mayBe_p060 10 rfl
set_option maxRecDepth 20000 in
theorem ggX4_tablesThatMayBe_X4_mayBe : GoodIn wsX4_tablesThatMayBe wsX4_mayBe := goodIn_r _ [5, 6, 7, 8, 9] rfl (by decide +kernel)
set_option maxRecDepth 20000 in
theorem gX4_tablesThatMayBe_X4_mayBe : GoodIn wsX4_tablesThatMayBe (wsV RX4 30 RX4 yX4_mayBe wsX4_mayBe) := goodIn_app (goodIn_of _ (by decide +kernel)) ggX4_tablesThatMayBe_X4_mayBe
set_option maxRecDepth 20000 in
theorem dqX4_tablesThatMayBe_p060 : dz_rn 0 (cX4_tablesThatMayBe.data.toList.drop 0) [(0, 8), (0, 19), (0, 8), (0, 20), (0, 2), (2, 0), (4, 4), (0, 4), (0, 2), (3, 1), (4, 7), (5, 0), (5, 0), (4, 0)] = some [(0, .iconst 0, 1), (1, .istore_n 1, 1), (2, .iconst 0, 1), (3, .istore_n 2, 1), (4, .iload_n 2, 1), (5, .bipush 81, 2), (7, .if_icmp .ge 20, 3), (10, .aload_n 0, 1), (11, .iload_n 2, 1), (12, .invokevirtual 30, 3), (15, .ifCond .eq 6, 3), (18, .iinc 1 1, 3), (21, .iinc 2 1, 3), (24, .goto (-20), 3)] := by decide +kernel
theorem dX4_tablesThatMayBe_0 : decode cX4_tablesThatMayBe 0 = .ok (.iconst 0, 1) := dz_at dqX4_tablesThatMayBe_p060 0 rfl
theorem dX4_tablesThatMayBe_1 : decode cX4_tablesThatMayBe 1 = .ok (.istore_n 1, 1) := dz_at dqX4_tablesThatMayBe_p060 1 rfl
theorem dX4_tablesThatMayBe_2 : decode cX4_tablesThatMayBe 2 = .ok (.iconst 0, 1) := dz_at dqX4_tablesThatMayBe_p060 2 rfl
theorem dX4_tablesThatMayBe_3 : decode cX4_tablesThatMayBe 3 = .ok (.istore_n 2, 1) := dz_at dqX4_tablesThatMayBe_p060 3 rfl
theorem dX4_tablesThatMayBe_4 : decode cX4_tablesThatMayBe 4 = .ok (.iload_n 2, 1) := dz_at dqX4_tablesThatMayBe_p060 4 rfl
theorem dX4_tablesThatMayBe_5 : decode cX4_tablesThatMayBe 5 = .ok (.bipush 81, 2) := dz_at dqX4_tablesThatMayBe_p060 5 rfl
theorem dX4_tablesThatMayBe_7 : decode cX4_tablesThatMayBe 7 = .ok (.if_icmp .ge 20, 3) := dz_at dqX4_tablesThatMayBe_p060 6 rfl
theorem dX4_tablesThatMayBe_10 : decode cX4_tablesThatMayBe 10 = .ok (.aload_n 0, 1) := dz_at dqX4_tablesThatMayBe_p060 7 rfl
theorem dX4_tablesThatMayBe_11 : decode cX4_tablesThatMayBe 11 = .ok (.iload_n 2, 1) := dz_at dqX4_tablesThatMayBe_p060 8 rfl
theorem dX4_tablesThatMayBe_12 : decode cX4_tablesThatMayBe 12 = .ok (.invokevirtual 30, 3) := dz_at dqX4_tablesThatMayBe_p060 9 rfl
theorem dX4_tablesThatMayBe_15 : decode cX4_tablesThatMayBe 15 = .ok (.ifCond .eq 6, 3) := dz_at dqX4_tablesThatMayBe_p060 10 rfl
theorem dX4_tablesThatMayBe_18 : decode cX4_tablesThatMayBe 18 = .ok (.iinc 1 1, 3) := dz_at dqX4_tablesThatMayBe_p060 11 rfl
theorem dX4_tablesThatMayBe_21 : decode cX4_tablesThatMayBe 21 = .ok (.iinc 2 1, 3) := dz_at dqX4_tablesThatMayBe_p060 12 rfl
theorem dX4_tablesThatMayBe_24 : decode cX4_tablesThatMayBe 24 = .ok (.goto (-20), 3) := dz_at dqX4_tablesThatMayBe_p060 13 rfl
set_option maxRecDepth 20000 in
theorem dqX4_tablesThatMayBe_p061 : dz_rn 27 (cX4_tablesThatMayBe.data.toList.drop 27) [(0, 1), (0, 12)] = some [(27, .iload_n 1, 1), (28, .ireturn, 1)] := by decide +kernel
theorem dX4_tablesThatMayBe_27 : decode cX4_tablesThatMayBe 27 = .ok (.iload_n 1, 1) := dz_at dqX4_tablesThatMayBe_p061 0 rfl
theorem dX4_tablesThatMayBe_28 : decode cX4_tablesThatMayBe 28 = .ok (.ireturn, 1) := dz_at dqX4_tablesThatMayBe_p061 1 rfl
set_option maxRecDepth 20000 in
theorem dqX4_likeliest_p060 : dz_rn 0 (cX4_likeliest.data.toList.drop 0) [(0, 8), (0, 19), (0, 9), (0, 20), (0, 2), (2, 0), (4, 4), (0, 4), (3, 0), (0, 2), (0, 10), (0, 4), (3, 0), (0, 1)] = some [(0, .iconst 0, 1), (1, .istore_n 1, 1), (2, .iconst 1, 1), (3, .istore_n 2, 1), (4, .iload_n 2, 1), (5, .bipush 81, 2), (7, .if_icmp .ge 26, 3), (10, .aload_n 0, 1), (11, .getfield 11, 3), (14, .iload_n 2, 1), (15, .iaload, 1), (16, .aload_n 0, 1), (17, .getfield 11, 3), (20, .iload_n 1, 1)] := by decide +kernel
theorem dX4_likeliest_0 : decode cX4_likeliest 0 = .ok (.iconst 0, 1) := dz_at dqX4_likeliest_p060 0 rfl
theorem dX4_likeliest_1 : decode cX4_likeliest 1 = .ok (.istore_n 1, 1) := dz_at dqX4_likeliest_p060 1 rfl
theorem dX4_likeliest_2 : decode cX4_likeliest 2 = .ok (.iconst 1, 1) := dz_at dqX4_likeliest_p060 2 rfl
theorem dX4_likeliest_3 : decode cX4_likeliest 3 = .ok (.istore_n 2, 1) := dz_at dqX4_likeliest_p060 3 rfl
theorem dX4_likeliest_4 : decode cX4_likeliest 4 = .ok (.iload_n 2, 1) := dz_at dqX4_likeliest_p060 4 rfl
theorem dX4_likeliest_5 : decode cX4_likeliest 5 = .ok (.bipush 81, 2) := dz_at dqX4_likeliest_p060 5 rfl
theorem dX4_likeliest_7 : decode cX4_likeliest 7 = .ok (.if_icmp .ge 26, 3) := dz_at dqX4_likeliest_p060 6 rfl
theorem dX4_likeliest_10 : decode cX4_likeliest 10 = .ok (.aload_n 0, 1) := dz_at dqX4_likeliest_p060 7 rfl
theorem dX4_likeliest_11 : decode cX4_likeliest 11 = .ok (.getfield 11, 3) := dz_at dqX4_likeliest_p060 8 rfl
theorem dX4_likeliest_14 : decode cX4_likeliest 14 = .ok (.iload_n 2, 1) := dz_at dqX4_likeliest_p060 9 rfl
theorem dX4_likeliest_15 : decode cX4_likeliest 15 = .ok (.iaload, 1) := dz_at dqX4_likeliest_p060 10 rfl
theorem dX4_likeliest_16 : decode cX4_likeliest 16 = .ok (.aload_n 0, 1) := dz_at dqX4_likeliest_p060 11 rfl
theorem dX4_likeliest_17 : decode cX4_likeliest 17 = .ok (.getfield 11, 3) := dz_at dqX4_likeliest_p060 12 rfl
theorem dX4_likeliest_20 : decode cX4_likeliest 20 = .ok (.iload_n 1, 1) := dz_at dqX4_likeliest_p060 13 rfl
set_option maxRecDepth 20000 in
theorem dqX4_likeliest_p061 : dz_rn 21 (cX4_likeliest.data.toList.drop 21) [(0, 10), (4, 6), (0, 2), (0, 19), (5, 0), (4, 0), (0, 1), (0, 12)] = some [(21, .iaload, 1), (22, .if_icmp .le 5, 3), (25, .iload_n 2, 1), (26, .istore_n 1, 1), (27, .iinc 2 1, 3), (30, .goto (-26), 3), (33, .iload_n 1, 1), (34, .ireturn, 1)] := by decide +kernel
theorem dX4_likeliest_21 : decode cX4_likeliest 21 = .ok (.iaload, 1) := dz_at dqX4_likeliest_p061 0 rfl
theorem dX4_likeliest_22 : decode cX4_likeliest 22 = .ok (.if_icmp .le 5, 3) := dz_at dqX4_likeliest_p061 1 rfl
theorem dX4_likeliest_25 : decode cX4_likeliest 25 = .ok (.iload_n 2, 1) := dz_at dqX4_likeliest_p061 2 rfl
theorem dX4_likeliest_26 : decode cX4_likeliest 26 = .ok (.istore_n 1, 1) := dz_at dqX4_likeliest_p061 3 rfl
theorem dX4_likeliest_27 : decode cX4_likeliest 27 = .ok (.iinc 2 1, 3) := dz_at dqX4_likeliest_p061 4 rfl
theorem dX4_likeliest_30 : decode cX4_likeliest 30 = .ok (.goto (-26), 3) := dz_at dqX4_likeliest_p061 5 rfl
theorem dX4_likeliest_33 : decode cX4_likeliest 33 = .ok (.iload_n 1, 1) := dz_at dqX4_likeliest_p061 6 rfl
theorem dX4_likeliest_34 : decode cX4_likeliest 34 = .ok (.ireturn, 1) := dz_at dqX4_likeliest_p061 7 rfl
set_option maxRecDepth 20000 in
theorem ggX4_nameOfLikeliest_X4_likeliest : GoodIn wsX4_nameOfLikeliest wsX4_likeliest := goodIn_r _ [5, 6, 13, 14] rfl (by decide +kernel)
set_option maxRecDepth 20000 in
theorem gX4_nameOfLikeliest_X4_likeliest : GoodIn wsX4_nameOfLikeliest (wsV RX4 34 RX4 yX4_likeliest wsX4_likeliest) := goodIn_app (goodIn_of _ (by decide +kernel)) ggX4_nameOfLikeliest_X4_likeliest
set_option maxRecDepth 20000 in
theorem ggX4_nameOfLikeliest_X4_lossOf : GoodIn wsX4_nameOfLikeliest wsX4_lossOf := goodIn_r _ [9] rfl (by decide +kernel)
set_option maxRecDepth 20000 in
theorem gX4_nameOfLikeliest_X4_lossOf : GoodIn wsX4_nameOfLikeliest (va_wsS RX4 23 yX4_lossOf wsX4_lossOf) := goodIn_app (goodIn_of _ (by decide +kernel)) ggX4_nameOfLikeliest_X4_lossOf
set_option maxRecDepth 20000 in
theorem ggX4_nameOfLikeliest_X4_limitOf : GoodIn wsX4_nameOfLikeliest wsX4_limitOf := goodIn_r _ [12] rfl (by decide +kernel)
set_option maxRecDepth 20000 in
theorem gX4_nameOfLikeliest_X4_limitOf : GoodIn wsX4_nameOfLikeliest (va_wsS RX4 27 yX4_limitOf wsX4_limitOf) := goodIn_app (goodIn_of _ (by decide +kernel)) ggX4_nameOfLikeliest_X4_limitOf
set_option maxRecDepth 20000 in
theorem dqX4_nameOfLikeliest_p060 : dz_rn 0 (cX4_nameOfLikeliest.data.toList.drop 0) [(0, 4), (3, 1), (0, 19), (2, 0), (0, 1), (3, 2), (0, 23), (0, 1), (3, 2), (0, 11), (0, 12)] = some [(0, .aload_n 0, 1), (1, .invokevirtual 34, 3), (4, .istore_n 1, 1), (5, .bipush 100, 2), (7, .iload_n 1, 1), (8, .invokestatic 23, 3), (11, .imul, 1), (12, .iload_n 1, 1), (13, .invokestatic 27, 3), (16, .iadd, 1), (17, .ireturn, 1)] := by decide +kernel
theorem dX4_nameOfLikeliest_0 : decode cX4_nameOfLikeliest 0 = .ok (.aload_n 0, 1) := dz_at dqX4_nameOfLikeliest_p060 0 rfl
theorem dX4_nameOfLikeliest_1 : decode cX4_nameOfLikeliest 1 = .ok (.invokevirtual 34, 3) := dz_at dqX4_nameOfLikeliest_p060 1 rfl
theorem dX4_nameOfLikeliest_4 : decode cX4_nameOfLikeliest 4 = .ok (.istore_n 1, 1) := dz_at dqX4_nameOfLikeliest_p060 2 rfl
theorem dX4_nameOfLikeliest_5 : decode cX4_nameOfLikeliest 5 = .ok (.bipush 100, 2) := dz_at dqX4_nameOfLikeliest_p060 3 rfl
theorem dX4_nameOfLikeliest_7 : decode cX4_nameOfLikeliest 7 = .ok (.iload_n 1, 1) := dz_at dqX4_nameOfLikeliest_p060 4 rfl
theorem dX4_nameOfLikeliest_8 : decode cX4_nameOfLikeliest 8 = .ok (.invokestatic 23, 3) := dz_at dqX4_nameOfLikeliest_p060 5 rfl
theorem dX4_nameOfLikeliest_11 : decode cX4_nameOfLikeliest 11 = .ok (.imul, 1) := dz_at dqX4_nameOfLikeliest_p060 6 rfl
theorem dX4_nameOfLikeliest_12 : decode cX4_nameOfLikeliest 12 = .ok (.iload_n 1, 1) := dz_at dqX4_nameOfLikeliest_p060 7 rfl
theorem dX4_nameOfLikeliest_13 : decode cX4_nameOfLikeliest 13 = .ok (.invokestatic 27, 3) := dz_at dqX4_nameOfLikeliest_p060 8 rfl
theorem dX4_nameOfLikeliest_16 : decode cX4_nameOfLikeliest 16 = .ok (.iadd, 1) := dz_at dqX4_nameOfLikeliest_p060 9 rfl
theorem dX4_nameOfLikeliest_17 : decode cX4_nameOfLikeliest 17 = .ok (.ireturn, 1) := dz_at dqX4_nameOfLikeliest_p060 10 rfl
set_option maxRecDepth 20000 in
theorem ggX4_agreementOfLikeliest_X4_likeliest : GoodIn wsX4_agreementOfLikeliest wsX4_likeliest := goodIn_r _ [6, 1, 7, 8] rfl (by decide +kernel)
set_option maxRecDepth 20000 in
theorem gX4_agreementOfLikeliest_X4_likeliest : GoodIn wsX4_agreementOfLikeliest (wsV RX4 34 RX4 yX4_likeliest wsX4_likeliest) := goodIn_app (goodIn_of _ (by decide +kernel)) ggX4_agreementOfLikeliest_X4_likeliest
set_option maxRecDepth 20000 in
theorem dqX4_agreementOfLikeliest_p060 : dz_rn 0 (cX4_agreementOfLikeliest.data.toList.drop 0) [(0, 4), (3, 0), (0, 4), (3, 1), (0, 10), (0, 12)] = some [(0, .aload_n 0, 1), (1, .getfield 11, 3), (4, .aload_n 0, 1), (5, .invokevirtual 34, 3), (8, .iaload, 1), (9, .ireturn, 1)] := by decide +kernel
theorem dX4_agreementOfLikeliest_0 : decode cX4_agreementOfLikeliest 0 = .ok (.aload_n 0, 1) := dz_at dqX4_agreementOfLikeliest_p060 0 rfl
theorem dX4_agreementOfLikeliest_1 : decode cX4_agreementOfLikeliest 1 = .ok (.getfield 11, 3) := dz_at dqX4_agreementOfLikeliest_p060 1 rfl
theorem dX4_agreementOfLikeliest_4 : decode cX4_agreementOfLikeliest 4 = .ok (.aload_n 0, 1) := dz_at dqX4_agreementOfLikeliest_p060 2 rfl
theorem dX4_agreementOfLikeliest_5 : decode cX4_agreementOfLikeliest 5 = .ok (.invokevirtual 34, 3) := dz_at dqX4_agreementOfLikeliest_p060 3 rfl
theorem dX4_agreementOfLikeliest_8 : decode cX4_agreementOfLikeliest 8 = .ok (.iaload, 1) := dz_at dqX4_agreementOfLikeliest_p060 4 rfl
theorem dX4_agreementOfLikeliest_9 : decode cX4_agreementOfLikeliest 9 = .ok (.ireturn, 1) := dz_at dqX4_agreementOfLikeliest_p060 5 rfl
set_option maxRecDepth 20000 in
theorem ggX4_dayThatParts_X4_tablesThatMayBe : GoodIn wsX4_dayThatParts wsX4_tablesThatMayBe := goodIn_r _ [5, 6, 7, 8, 4, 9, 10, 11, 29, 30] rfl (by decide +kernel)
set_option maxRecDepth 20000 in
theorem gX4_dayThatParts_X4_tablesThatMayBe : GoodIn wsX4_dayThatParts (wsV RX4 38 RX4 yX4_tablesThatMayBe wsX4_tablesThatMayBe) := goodIn_app (goodIn_of _ (by decide +kernel)) ggX4_dayThatParts_X4_tablesThatMayBe
set_option maxRecDepth 20000 in
theorem ggX4_dayThatParts_X4_unlikeness : GoodIn wsX4_dayThatParts wsX4_unlikeness := goodIn_r _ [15, 16, 17, 18, 19, 6, 7, 8, 4, 9, 10, 11, 20, 21, 22, 23, 24, 25, 26, 27, 28, 29, 30] rfl (by decide +kernel)
set_option maxRecDepth 20000 in
theorem gX4_dayThatParts_X4_unlikeness : GoodIn wsX4_dayThatParts (wsV RX4 41 RX4 yX4_unlikeness wsX4_unlikeness) := goodIn_app (goodIn_of _ (by decide +kernel)) ggX4_dayThatParts_X4_unlikeness
set_option maxRecDepth 20000 in
theorem dqX4_dayThatParts_p060 : dz_rn 0 (cX4_dayThatParts.data.toList.drop 0) [(0, 4), (3, 1), (4, 8), (0, 13), (0, 12), (0, 13), (0, 19), (2, 0), (0, 20), (0, 9), (0, 21), (0, 3), (2, 0), (4, 5)] = some [(0, .aload_n 0, 1), (1, .invokevirtual 38, 3), (4, .ifCond .ne 5, 3), (7, .iconst (-1), 1), (8, .ireturn, 1), (9, .iconst (-1), 1), (10, .istore_n 1, 1), (11, .bipush 82, 2), (13, .istore_n 2, 1), (14, .iconst 1, 1), (15, .istore_n 3, 1), (16, .iload_n 3, 1), (17, .bipush 60, 2), (19, .if_icmp .gt 27, 3)] := by decide +kernel
theorem dX4_dayThatParts_0 : decode cX4_dayThatParts 0 = .ok (.aload_n 0, 1) := dz_at dqX4_dayThatParts_p060 0 rfl
theorem dX4_dayThatParts_1 : decode cX4_dayThatParts 1 = .ok (.invokevirtual 38, 3) := dz_at dqX4_dayThatParts_p060 1 rfl
theorem dX4_dayThatParts_4 : decode cX4_dayThatParts 4 = .ok (.ifCond .ne 5, 3) := dz_at dqX4_dayThatParts_p060 2 rfl
theorem dX4_dayThatParts_7 : decode cX4_dayThatParts 7 = .ok (.iconst (-1), 1) := dz_at dqX4_dayThatParts_p060 3 rfl
theorem dX4_dayThatParts_8 : decode cX4_dayThatParts 8 = .ok (.ireturn, 1) := dz_at dqX4_dayThatParts_p060 4 rfl
theorem dX4_dayThatParts_9 : decode cX4_dayThatParts 9 = .ok (.iconst (-1), 1) := dz_at dqX4_dayThatParts_p060 5 rfl
theorem dX4_dayThatParts_10 : decode cX4_dayThatParts 10 = .ok (.istore_n 1, 1) := dz_at dqX4_dayThatParts_p060 6 rfl
theorem dX4_dayThatParts_11 : decode cX4_dayThatParts 11 = .ok (.bipush 82, 2) := dz_at dqX4_dayThatParts_p060 7 rfl
theorem dX4_dayThatParts_13 : decode cX4_dayThatParts 13 = .ok (.istore_n 2, 1) := dz_at dqX4_dayThatParts_p060 8 rfl
theorem dX4_dayThatParts_14 : decode cX4_dayThatParts 14 = .ok (.iconst 1, 1) := dz_at dqX4_dayThatParts_p060 9 rfl
theorem dX4_dayThatParts_15 : decode cX4_dayThatParts 15 = .ok (.istore_n 3, 1) := dz_at dqX4_dayThatParts_p060 10 rfl
theorem dX4_dayThatParts_16 : decode cX4_dayThatParts 16 = .ok (.iload_n 3, 1) := dz_at dqX4_dayThatParts_p060 11 rfl
theorem dX4_dayThatParts_17 : decode cX4_dayThatParts 17 = .ok (.bipush 60, 2) := dz_at dqX4_dayThatParts_p060 12 rfl
theorem dX4_dayThatParts_19 : decode cX4_dayThatParts 19 = .ok (.if_icmp .gt 27, 3) := dz_at dqX4_dayThatParts_p060 13 rfl
set_option maxRecDepth 20000 in
theorem dqX4_dayThatParts_p061 : dz_rn 22 (cX4_dayThatParts.data.toList.drop 22) [(0, 4), (0, 3), (3, 1), (1, 1), (1, 0), (0, 2), (4, 4), (1, 0), (0, 20), (0, 3), (0, 19), (5, 0), (4, 0), (0, 1)] = some [(22, .aload_n 0, 1), (23, .iload_n 3, 1), (24, .invokevirtual 41, 3), (27, .istore 4, 2), (29, .iload 4, 2), (31, .iload_n 2, 1), (32, .if_icmp .ge 8, 3), (35, .iload 4, 2), (37, .istore_n 2, 1), (38, .iload_n 3, 1), (39, .istore_n 1, 1), (40, .iinc 3 1, 3), (43, .goto (-27), 3), (46, .iload_n 1, 1)] := by decide +kernel
theorem dX4_dayThatParts_22 : decode cX4_dayThatParts 22 = .ok (.aload_n 0, 1) := dz_at dqX4_dayThatParts_p061 0 rfl
theorem dX4_dayThatParts_23 : decode cX4_dayThatParts 23 = .ok (.iload_n 3, 1) := dz_at dqX4_dayThatParts_p061 1 rfl
theorem dX4_dayThatParts_24 : decode cX4_dayThatParts 24 = .ok (.invokevirtual 41, 3) := dz_at dqX4_dayThatParts_p061 2 rfl
theorem dX4_dayThatParts_27 : decode cX4_dayThatParts 27 = .ok (.istore 4, 2) := dz_at dqX4_dayThatParts_p061 3 rfl
theorem dX4_dayThatParts_29 : decode cX4_dayThatParts 29 = .ok (.iload 4, 2) := dz_at dqX4_dayThatParts_p061 4 rfl
theorem dX4_dayThatParts_31 : decode cX4_dayThatParts 31 = .ok (.iload_n 2, 1) := dz_at dqX4_dayThatParts_p061 5 rfl
theorem dX4_dayThatParts_32 : decode cX4_dayThatParts 32 = .ok (.if_icmp .ge 8, 3) := dz_at dqX4_dayThatParts_p061 6 rfl
theorem dX4_dayThatParts_35 : decode cX4_dayThatParts 35 = .ok (.iload 4, 2) := dz_at dqX4_dayThatParts_p061 7 rfl
theorem dX4_dayThatParts_37 : decode cX4_dayThatParts 37 = .ok (.istore_n 2, 1) := dz_at dqX4_dayThatParts_p061 8 rfl
theorem dX4_dayThatParts_38 : decode cX4_dayThatParts 38 = .ok (.iload_n 3, 1) := dz_at dqX4_dayThatParts_p061 9 rfl
theorem dX4_dayThatParts_39 : decode cX4_dayThatParts 39 = .ok (.istore_n 1, 1) := dz_at dqX4_dayThatParts_p061 10 rfl
theorem dX4_dayThatParts_40 : decode cX4_dayThatParts 40 = .ok (.iinc 3 1, 3) := dz_at dqX4_dayThatParts_p061 11 rfl
theorem dX4_dayThatParts_43 : decode cX4_dayThatParts 43 = .ok (.goto (-27), 3) := dz_at dqX4_dayThatParts_p061 12 rfl
theorem dX4_dayThatParts_46 : decode cX4_dayThatParts 46 = .ok (.iload_n 1, 1) := dz_at dqX4_dayThatParts_p061 13 rfl
theorem dX4_dayThatParts_47 : decode cX4_dayThatParts 47 = .ok (.ireturn, 1) := by decide +kernel
set_option maxRecDepth 20000 in
theorem ggX4_unlikeness_X4_mayBe : GoodIn wsX4_unlikeness wsX4_mayBe := goodIn_r _ [9, 10, 11, 21, 22] rfl (by decide +kernel)
set_option maxRecDepth 20000 in
theorem gX4_unlikeness_X4_mayBe : GoodIn wsX4_unlikeness (wsV RX4 30 RX4 yX4_mayBe wsX4_mayBe) := goodIn_app (goodIn_of _ (by decide +kernel)) ggX4_unlikeness_X4_mayBe
set_option maxRecDepth 20000 in
theorem ggX4_unlikeness_X4_saysRight : GoodIn wsX4_unlikeness wsX4_saysRight := goodIn_r _ [14, 15, 16, 8, 17, 18, 19, 20] rfl (by decide +kernel)
set_option maxRecDepth 20000 in
theorem gX4_unlikeness_X4_saysRight : GoodIn wsX4_unlikeness (va_wsS RX4 15 yX4_saysRight wsX4_saysRight) := goodIn_app (goodIn_of _ (by decide +kernel)) ggX4_unlikeness_X4_saysRight
set_option maxRecDepth 20000 in
theorem dqX4_unlikeness_p060 : dz_rn 0 (cX4_unlikeness.data.toList.drop 0) [(0, 8), (0, 20), (0, 8), (0, 21), (0, 3), (2, 0), (4, 4), (0, 4), (0, 3), (3, 1), (4, 7), (0, 2), (0, 3), (0, 1)] = some [(0, .iconst 0, 1), (1, .istore_n 2, 1), (2, .iconst 0, 1), (3, .istore_n 3, 1), (4, .iload_n 3, 1), (5, .bipush 81, 2), (7, .if_icmp .ge 33, 3), (10, .aload_n 0, 1), (11, .iload_n 3, 1), (12, .invokevirtual 30, 3), (15, .ifCond .eq 19, 3), (18, .iload_n 2, 1), (19, .iload_n 3, 1), (20, .iload_n 1, 1)] := by decide +kernel
theorem dX4_unlikeness_0 : decode cX4_unlikeness 0 = .ok (.iconst 0, 1) := dz_at dqX4_unlikeness_p060 0 rfl
theorem dX4_unlikeness_1 : decode cX4_unlikeness 1 = .ok (.istore_n 2, 1) := dz_at dqX4_unlikeness_p060 1 rfl
theorem dX4_unlikeness_2 : decode cX4_unlikeness 2 = .ok (.iconst 0, 1) := dz_at dqX4_unlikeness_p060 2 rfl
theorem dX4_unlikeness_3 : decode cX4_unlikeness 3 = .ok (.istore_n 3, 1) := dz_at dqX4_unlikeness_p060 3 rfl
theorem dX4_unlikeness_4 : decode cX4_unlikeness 4 = .ok (.iload_n 3, 1) := dz_at dqX4_unlikeness_p060 4 rfl
theorem dX4_unlikeness_5 : decode cX4_unlikeness 5 = .ok (.bipush 81, 2) := dz_at dqX4_unlikeness_p060 5 rfl
theorem dX4_unlikeness_7 : decode cX4_unlikeness 7 = .ok (.if_icmp .ge 33, 3) := dz_at dqX4_unlikeness_p060 6 rfl
theorem dX4_unlikeness_10 : decode cX4_unlikeness 10 = .ok (.aload_n 0, 1) := dz_at dqX4_unlikeness_p060 7 rfl
theorem dX4_unlikeness_11 : decode cX4_unlikeness 11 = .ok (.iload_n 3, 1) := dz_at dqX4_unlikeness_p060 8 rfl
theorem dX4_unlikeness_12 : decode cX4_unlikeness 12 = .ok (.invokevirtual 30, 3) := dz_at dqX4_unlikeness_p060 9 rfl
theorem dX4_unlikeness_15 : decode cX4_unlikeness 15 = .ok (.ifCond .eq 19, 3) := dz_at dqX4_unlikeness_p060 10 rfl
theorem dX4_unlikeness_18 : decode cX4_unlikeness 18 = .ok (.iload_n 2, 1) := dz_at dqX4_unlikeness_p060 11 rfl
theorem dX4_unlikeness_19 : decode cX4_unlikeness 19 = .ok (.iload_n 3, 1) := dz_at dqX4_unlikeness_p060 12 rfl
theorem dX4_unlikeness_20 : decode cX4_unlikeness 20 = .ok (.iload_n 1, 1) := dz_at dqX4_unlikeness_p060 13 rfl
set_option maxRecDepth 20000 in
theorem dqX4_unlikeness_p061 : dz_rn 21 (cX4_unlikeness.data.toList.drop 21) [(3, 2), (4, 7), (0, 9), (4, 0), (0, 13), (0, 11), (0, 20), (5, 0), (4, 0), (0, 2), (3, 2), (0, 12)] = some [(21, .invokestatic 15, 3), (24, .ifCond .eq 7, 3), (27, .iconst 1, 1), (28, .goto 4, 3), (31, .iconst (-1), 1), (32, .iadd, 1), (33, .istore_n 2, 1), (34, .iinc 3 1, 3), (37, .goto (-33), 3), (40, .iload_n 2, 1), (41, .invokestatic 44, 3), (44, .ireturn, 1)] := by decide +kernel
theorem dX4_unlikeness_21 : decode cX4_unlikeness 21 = .ok (.invokestatic 15, 3) := dz_at dqX4_unlikeness_p061 0 rfl
theorem dX4_unlikeness_24 : decode cX4_unlikeness 24 = .ok (.ifCond .eq 7, 3) := dz_at dqX4_unlikeness_p061 1 rfl
theorem dX4_unlikeness_27 : decode cX4_unlikeness 27 = .ok (.iconst 1, 1) := dz_at dqX4_unlikeness_p061 2 rfl
theorem dX4_unlikeness_28 : decode cX4_unlikeness 28 = .ok (.goto 4, 3) := dz_at dqX4_unlikeness_p061 3 rfl
theorem dX4_unlikeness_31 : decode cX4_unlikeness 31 = .ok (.iconst (-1), 1) := dz_at dqX4_unlikeness_p061 4 rfl
theorem dX4_unlikeness_32 : decode cX4_unlikeness 32 = .ok (.iadd, 1) := dz_at dqX4_unlikeness_p061 5 rfl
theorem dX4_unlikeness_33 : decode cX4_unlikeness 33 = .ok (.istore_n 2, 1) := dz_at dqX4_unlikeness_p061 6 rfl
theorem dX4_unlikeness_34 : decode cX4_unlikeness 34 = .ok (.iinc 3 1, 3) := dz_at dqX4_unlikeness_p061 7 rfl
theorem dX4_unlikeness_37 : decode cX4_unlikeness 37 = .ok (.goto (-33), 3) := dz_at dqX4_unlikeness_p061 8 rfl
theorem dX4_unlikeness_40 : decode cX4_unlikeness 40 = .ok (.iload_n 2, 1) := dz_at dqX4_unlikeness_p061 9 rfl
theorem dX4_unlikeness_41 : decode cX4_unlikeness 41 = .ok (.invokestatic 44, 3) := dz_at dqX4_unlikeness_p061 10 rfl
theorem dX4_unlikeness_44 : decode cX4_unlikeness 44 = .ok (.ireturn, 1) := dz_at dqX4_unlikeness_p061 11 rfl
set_option maxHeartbeats 4000000 in
set_option maxRecDepth 100000 in
theorem k_X5_forget (l : Launch) (dC : Nat → ClassId) (dI : Nat → Nat → Nat) (cI cZ cQ : ClassId) (rb0 : Nat) (rb1 : Nat) (rb2 : Nat) (mos : Nat → Int32) (wev : Nat → Int32) (aga : Int32) (apa : Int32) (lin : Int32) (sz : Nat)  : KV l yX5_forget wsX5_forget { frames := 1, cells := 0, slots := 0, locals := 23 } (dC, dI) (TY cI cZ cQ) (wRul cI cZ cQ rb0 rb1 rb2 mos wev aga apa lin) [.ref rb0] sz 0 0 (fun (u : US) => (∀ j, j < 8 → (u.1 0) j = -1) ∧ (∀ j, j < 8 → (u.1 1) j = -1) ∧ ((u.1 2 0) = -1) ∧ ((u.1 3 0) = -1) ∧ ((u.1 4 0) = 0)) (fun u : US => (wRul cI cZ cQ rb0 rb1 rb2 (u.1 0) (u.1 1) (u.1 2 0) (u.1 3 0) (u.1 4 0))) := by
  refine Met.ofW (cc := cX5_forget) (maxL := 1) (ret := none) (by decide) rfl ?_
  intro p e s m args below meth c s₁ B hml hv
  obtain ⟨rfl, hsz, hP, hK, hD0, hN⟩ := hv
  have hx := B.exec
  have hb := B.bytes
  have hr := B.returns
  have hts := atoms_spec (ws := wsX5_forget) B.pre
  have hown : s.vm.findClass RX5 = some m.cls := findClass_of_methodNamed B.named
  have hlocks := B.notSynchronized
  have lf9 := hts (.fieldLink RX5 9 "PalaceOfRooms$RuleBook" "mostIn" "[I") (List.mem_cons_of_mem _ (List.mem_append_left _ (List.mem_of_getElem? (i := 0) rfl)))
  have inX5 : ∀ w ∈ wsX50, w ∈ wsX5_forget := fun w h => List.mem_cons_of_mem _ (List.mem_append_right _ h)
  have lf15 := hts (.fieldLink RX5 15 "PalaceOfRooms$RuleBook" "walkEvery" "[I") (List.mem_cons_of_mem _ (List.mem_append_left _ (List.mem_of_getElem? (i := 1) rfl)))
  have lf27 := hts (.fieldLink RX5 27 "PalaceOfRooms$RuleBook" "again" "I") (List.mem_cons_of_mem _ (List.mem_append_left _ (List.mem_of_getElem? (i := 2) rfl)))
  have lf31 := hts (.fieldLink RX5 31 "PalaceOfRooms$RuleBook" "apart" "I") (List.mem_cons_of_mem _ (List.mem_append_left _ (List.mem_of_getElem? (i := 3) rfl)))
  have lf34 := hts (.fieldLink RX5 34 "PalaceOfRooms$RuleBook" "lines" "I") (List.mem_cons_of_mem _ (List.mem_append_left _ (List.mem_of_getElem? (i := 4) rfl)))
  subst hsz
  have hD := hD0.self (sz := s.heap.size)
  generalize hAe : va_A (wRul cI cZ cQ rb0 rb1 rb2 mos wev aga apa lin) s.heap.size = A at hD ⊢
  have hA : ∀ q : Nat, s.heap.size ≤ q → A q := fun q h => by rw [← hAe]; exact Or.inr h
  have hS : va_S A s.heap s.heap [] := va_S.rf
  have hl := lv_entry ([.ref rb0]) (n := 1) (Nat.le_of_ble_eq_true rfl)
  rw [lg_entry_eq]
  generalize (lg_sl ([.ref rb0]) ++ List.replicate (1 - (lg_sl ([.ref rb0])).length) Slot.unset).toArray = ls at hl ⊢
  have hl : lv_has ls 1 [(0, .ref rb0)] := hl
  refine lv_aload_n hx hb dX5_forget_0 rfl (lv_at hl 0 rfl) ?_
  refine va_get (D := (dC, dI)) (ci := 5) (v := .ref rb1) (C := RX5) (T := TX5) (N := 5) hx hb hts inX5 hown hK hP 0 rfl rfl 0 (by decide) lf9 (fun _ h9 => h9) rfl dX5_forget_1 ?_
  refine lv_iconst (v := (-1)) hx hb dX5_forget_4 (by decide) ?_
  refine wvS (As := [.ref rb1, .int (-1)]) (rest := []) (wr := [(rb0, .inr (5, [.ref rb1, .ref rb2, .int aga, .int apa, .int lin])), (rb2, .inl (cI, 8, .inl wev))]) (w2 := (fun u : US => (wRul cI cZ cQ rb0 rb1 rb2 (u.1 0) wev aga apa lin))) ⟨hx, hb, hml, hown, hts⟩ (k_J7_fill_53178 l dC dI cI cZ cQ rb1 8 mos _ ((-1) : Int32) (by omega)) (va_cwS 2 hts gX5_forget_J7_fill_53178 rfl rfl rfl (by decide +kernel) ⟨Nat.le_of_ble_eq_true rfl, Nat.le_of_ble_eq_true rfl⟩) hP hD hS hA hK hN [1] [0, 2] [0, 2, 1] rfl rfl (by decide) (by decide) (by decide) (fun _ => rfl) (by decide) rfl hl.1 rfl (Nat.le_of_ble_eq_true rfl) dX5_forget_5 ⟨Nat.le_of_ble_eq_true rfl, Nat.le_of_ble_eq_true rfl⟩ (fun u3 H locs h2 hP hD hS => ?_)
  obtain ⟨mos_c4, emos_c4⟩ : ∃ f : Nat → Int32, f = (u3.1 0) := ⟨_, rfl⟩
  have hP : va_P (dC, dI) vwCl (wRul cI cZ cQ rb0 rb1 rb2 mos_c4 wev aga apa lin) H := by rw [emos_c4]; exact hP
  have hD : va_D A (wRul cI cZ cQ rb0 rb1 rb2 mos_c4 wev aga apa lin) := by rw [emos_c4]; exact hD
  have h2 : (∀ j, j < 8 → mos_c4 j = ((-1) : Int32)) := by (try rw [emos_c4]); exact h2
  have h2_0 := h2
  refine lv_aload_n hx hb dX5_forget_8 rfl (lv_at hl 0 rfl) ?_
  refine va_get (D := (dC, dI)) (ci := 5) (v := .ref rb2) (C := RX5) (T := TX5) (N := 5) hx hb hts inX5 hown hK hP 0 rfl rfl 1 (by decide) lf15 (fun _ h9 => h9) rfl dX5_forget_9 ?_
  refine lv_iconst (v := (-1)) hx hb dX5_forget_12 (by decide) ?_
  refine wvS (As := [.ref rb2, .int (-1)]) (rest := []) (wr := [(rb0, .inr (5, [.ref rb1, .ref rb2, .int aga, .int apa, .int lin])), (rb1, .inl (cI, 8, .inl mos_c4))]) (w2 := (fun u : US => (wRul cI cZ cQ rb0 rb1 rb2 mos_c4 (u.1 0) aga apa lin))) ⟨hx, hb, hml, hown, hts⟩ (k_J7_fill_53178 l dC dI cI cZ cQ rb2 8 wev _ ((-1) : Int32) (by omega)) (va_cwS 2 hts gX5_forget_J7_fill_53178 rfl rfl rfl (by decide +kernel) ⟨Nat.le_of_ble_eq_true rfl, Nat.le_of_ble_eq_true rfl⟩) hP hD hS hA hK hN [2] [0, 1] [0, 1, 2] rfl rfl (by decide) (by decide) (by decide) (fun _ => rfl) (by decide) rfl hl.1 rfl (Nat.le_of_ble_eq_true rfl) dX5_forget_13 ⟨Nat.le_of_ble_eq_true rfl, Nat.le_of_ble_eq_true rfl⟩ (fun u7 H locs h6 hP hD hS => ?_)
  obtain ⟨wev_c8, ewev_c8⟩ : ∃ f : Nat → Int32, f = (u7.1 0) := ⟨_, rfl⟩
  have hP : va_P (dC, dI) vwCl (wRul cI cZ cQ rb0 rb1 rb2 mos_c4 wev_c8 aga apa lin) H := by rw [ewev_c8]; exact hP
  have hD : va_D A (wRul cI cZ cQ rb0 rb1 rb2 mos_c4 wev_c8 aga apa lin) := by rw [ewev_c8]; exact hD
  have h6 : (∀ j, j < 8 → wev_c8 j = ((-1) : Int32)) := by (try rw [ewev_c8]); exact h6
  have h6_0 := h6
  refine lv_aload_n hx hb dX5_forget_16 rfl (lv_at hl 0 rfl) ?_
  refine lv_iconst (v := (-1)) hx hb dX5_forget_17 (by decide) ?_
  refine va_put (D := (dC, dI)) (ci := 5) (v := .int (-1)) (ty := .int) (C := RX5) (T := TX5) (N := 5) hx hb hts inX5 tyX5 tyX5_ok nmX5 hown hK hP hD hS 0 rfl rfl 2 (by decide) lf27 (fun _ h9 => h9) rfl (by decide +kernel) rfl rfl (Nat.le_of_ble_eq_true rfl) dX5_forget_18 (fun H locs hP hD hS => ?_)
  have hP : va_P (dC, dI) vwCl (wRul cI cZ cQ rb0 rb1 rb2 mos_c4 wev_c8 (-1) apa lin) H := hP
  have hD : va_D A (wRul cI cZ cQ rb0 rb1 rb2 mos_c4 wev_c8 (-1) apa lin) := hD
  refine lv_aload_n hx hb dX5_forget_21 rfl (lv_at hl 0 rfl) ?_
  refine lv_iconst (v := (-1)) hx hb dX5_forget_22 (by decide) ?_
  refine va_put (D := (dC, dI)) (ci := 5) (v := .int (-1)) (ty := .int) (C := RX5) (T := TX5) (N := 5) hx hb hts inX5 tyX5 tyX5_ok nmX5 hown hK hP hD hS 0 rfl rfl 3 (by decide) lf31 (fun _ h9 => h9) rfl (by decide +kernel) rfl rfl (Nat.le_of_ble_eq_true rfl) dX5_forget_23 (fun H locs hP hD hS => ?_)
  have hP : va_P (dC, dI) vwCl (wRul cI cZ cQ rb0 rb1 rb2 mos_c4 wev_c8 (-1) (-1) lin) H := hP
  have hD : va_D A (wRul cI cZ cQ rb0 rb1 rb2 mos_c4 wev_c8 (-1) (-1) lin) := hD
  refine lv_aload_n hx hb dX5_forget_26 rfl (lv_at hl 0 rfl) ?_
  refine lv_iconst (v := 0) hx hb dX5_forget_27 (by decide) ?_
  refine va_put (D := (dC, dI)) (ci := 5) (v := .int 0) (ty := .int) (C := RX5) (T := TX5) (N := 5) hx hb hts inX5 tyX5 tyX5_ok nmX5 hown hK hP hD hS 0 rfl rfl 4 (by decide) lf34 (fun _ h9 => h9) rfl (by decide +kernel) rfl rfl (Nat.le_of_ble_eq_true rfl) dX5_forget_28 (fun H locs hP hD hS => ?_)
  have hP : va_P (dC, dI) vwCl (wRul cI cZ cQ rb0 rb1 rb2 mos_c4 wev_c8 (-1) (-1) 0) H := hP
  have hD : va_D A (wRul cI cZ cQ rb0 rb1 rb2 mos_c4 wev_c8 (-1) (-1) 0) := hD
  exact W.vret hx hb hr (fun t ht hW => ⟨⟨(uS [mos_c4, wev_c8, (fun _ => (-1)), (fun _ => (-1)), (fun _ => 0)] 0 (fun _ => 0)), rfl, ⟨(show ∀ j, j < 8 → mos_c4 j = -1 from by assumption), (show ∀ j, j < 8 → wev_c8 j = -1 from by assumption), (show (-1) = -1 from by rfl), (show (-1) = -1 from by rfl), (show 0 = 0 from by rfl)⟩, by rw [ht]; exact hP, hD⟩, hS.F ht⟩) hS.2.2 dX5_forget_31
end
