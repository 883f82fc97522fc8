section
set_option maxRecDepth 20000 in
theorem ggX10_likeBeside_X10_likeness : GoodIn wsX10_likeBeside wsX10_likeness := goodIn_r _ [7, 8, 9, 10, 11, 12, 13, 14, 15, 16, 17, 18, 19, 20, 21, 22, 23, 24, 25, 26, 27, 28, 29, 30, 31, 32, 33, 34, 35, 36, 37, 38, 39, 40, 41, 42, 43, 44, 45, 46, 47] rfl (by decide +kernel)
set_option maxRecDepth 20000 in
theorem gX10_likeBeside_X10_likeness : GoodIn wsX10_likeBeside (wsV RX10 115 RX10 yX10_likeness wsX10_likeness) := goodIn_app (goodIn_of _ (by decide +kernel)) ggX10_likeBeside_X10_likeness
set_option maxRecDepth 20000 in
theorem dqX10_likeBeside_p110 : dz_rn 0 (cX10_likeBeside.data.toList.drop 0) [(0, 8), (0, 20), (0, 1), (2, 0), (0, 27), (2, 0), (0, 23), (0, 21), (0, 3), (0, 1), (2, 0), (0, 27), (2, 0), (0, 23)] = some [(0, .iconst 0, 1), (1, .istore_n 2, 1), (2, .iload_n 1, 1), (3, .bipush 6, 2), (5, .idiv, 1), (6, .bipush 6, 2), (8, .imul, 1), (9, .istore_n 3, 1), (10, .iload_n 3, 1), (11, .iload_n 1, 1), (12, .bipush 6, 2), (14, .idiv, 1), (15, .bipush 6, 2), (17, .imul, 1)] := by decide +kernel
theorem dX10_likeBeside_0 : decode cX10_likeBeside 0 = .ok (.iconst 0, 1) := dz_at dqX10_likeBeside_p110 0 rfl
theorem dX10_likeBeside_1 : decode cX10_likeBeside 1 = .ok (.istore_n 2, 1) := dz_at dqX10_likeBeside_p110 1 rfl
theorem dX10_likeBeside_2 : decode cX10_likeBeside 2 = .ok (.iload_n 1, 1) := dz_at dqX10_likeBeside_p110 2 rfl
theorem dX10_likeBeside_3 : decode cX10_likeBeside 3 = .ok (.bipush 6, 2) := dz_at dqX10_likeBeside_p110 3 rfl
theorem dX10_likeBeside_5 : decode cX10_likeBeside 5 = .ok (.idiv, 1) := dz_at dqX10_likeBeside_p110 4 rfl
theorem dX10_likeBeside_6 : decode cX10_likeBeside 6 = .ok (.bipush 6, 2) := dz_at dqX10_likeBeside_p110 5 rfl
theorem dX10_likeBeside_8 : decode cX10_likeBeside 8 = .ok (.imul, 1) := dz_at dqX10_likeBeside_p110 6 rfl
theorem dX10_likeBeside_9 : decode cX10_likeBeside 9 = .ok (.istore_n 3, 1) := dz_at dqX10_likeBeside_p110 7 rfl
theorem dX10_likeBeside_10 : decode cX10_likeBeside 10 = .ok (.iload_n 3, 1) := dz_at dqX10_likeBeside_p110 8 rfl
theorem dX10_likeBeside_11 : decode cX10_likeBeside 11 = .ok (.iload_n 1, 1) := dz_at dqX10_likeBeside_p110 9 rfl
theorem dX10_likeBeside_12 : decode cX10_likeBeside 12 = .ok (.bipush 6, 2) := dz_at dqX10_likeBeside_p110 10 rfl
theorem dX10_likeBeside_14 : decode cX10_likeBeside 14 = .ok (.idiv, 1) := dz_at dqX10_likeBeside_p110 11 rfl
theorem dX10_likeBeside_15 : decode cX10_likeBeside 15 = .ok (.bipush 6, 2) := dz_at dqX10_likeBeside_p110 12 rfl
theorem dX10_likeBeside_17 : decode cX10_likeBeside 17 = .ok (.imul, 1) := dz_at dqX10_likeBeside_p110 13 rfl
set_option maxRecDepth 20000 in
theorem dqX10_likeBeside_p111 : dz_rn 18 (cX10_likeBeside.data.toList.drop 18) [(2, 0), (0, 11), (4, 4), (0, 2), (0, 3), (0, 1), (4, 1), (0, 4), (3, 0), (0, 3), (0, 10), (0, 13), (4, 1), (0, 4)] = some [(18, .bipush 6, 2), (20, .iadd, 1), (21, .if_icmp .ge 55, 3), (24, .iload_n 2, 1), (25, .iload_n 3, 1), (26, .iload_n 1, 1), (27, .if_icmp .eq 40, 3), (30, .aload_n 0, 1), (31, .getfield 32, 3), (34, .iload_n 3, 1), (35, .iaload, 1), (36, .iconst (-1), 1), (37, .if_icmp .eq 30, 3), (40, .aload_n 0, 1)] := by decide +kernel
theorem dX10_likeBeside_18 : decode cX10_likeBeside 18 = .ok (.bipush 6, 2) := dz_at dqX10_likeBeside_p111 0 rfl
theorem dX10_likeBeside_20 : decode cX10_likeBeside 20 = .ok (.iadd, 1) := dz_at dqX10_likeBeside_p111 1 rfl
theorem dX10_likeBeside_21 : decode cX10_likeBeside 21 = .ok (.if_icmp .ge 55, 3) := dz_at dqX10_likeBeside_p111 2 rfl
theorem dX10_likeBeside_24 : decode cX10_likeBeside 24 = .ok (.iload_n 2, 1) := dz_at dqX10_likeBeside_p111 3 rfl
theorem dX10_likeBeside_25 : decode cX10_likeBeside 25 = .ok (.iload_n 3, 1) := dz_at dqX10_likeBeside_p111 4 rfl
theorem dX10_likeBeside_26 : decode cX10_likeBeside 26 = .ok (.iload_n 1, 1) := dz_at dqX10_likeBeside_p111 5 rfl
theorem dX10_likeBeside_27 : decode cX10_likeBeside 27 = .ok (.if_icmp .eq 40, 3) := dz_at dqX10_likeBeside_p111 6 rfl
theorem dX10_likeBeside_30 : decode cX10_likeBeside 30 = .ok (.aload_n 0, 1) := dz_at dqX10_likeBeside_p111 7 rfl
theorem dX10_likeBeside_31 : decode cX10_likeBeside 31 = .ok (.getfield 32, 3) := dz_at dqX10_likeBeside_p111 8 rfl
theorem dX10_likeBeside_34 : decode cX10_likeBeside 34 = .ok (.iload_n 3, 1) := dz_at dqX10_likeBeside_p111 9 rfl
theorem dX10_likeBeside_35 : decode cX10_likeBeside 35 = .ok (.iaload, 1) := dz_at dqX10_likeBeside_p111 10 rfl
theorem dX10_likeBeside_36 : decode cX10_likeBeside 36 = .ok (.iconst (-1), 1) := dz_at dqX10_likeBeside_p111 11 rfl
theorem dX10_likeBeside_37 : decode cX10_likeBeside 37 = .ok (.if_icmp .eq 30, 3) := dz_at dqX10_likeBeside_p111 12 rfl
theorem dX10_likeBeside_40 : decode cX10_likeBeside 40 = .ok (.aload_n 0, 1) := dz_at dqX10_likeBeside_p111 13 rfl
set_option maxRecDepth 20000 in
theorem dqX10_likeBeside_p112 : dz_rn 41 (cX10_likeBeside.data.toList.drop 41) [(0, 4), (3, 0), (0, 3), (0, 10), (0, 4), (3, 0), (0, 1), (0, 10), (3, 1), (0, 4), (3, 0), (4, 3), (0, 9), (4, 0)] = some [(41, .aload_n 0, 1), (42, .getfield 32, 3), (45, .iload_n 3, 1), (46, .iaload, 1), (47, .aload_n 0, 1), (48, .getfield 32, 3), (51, .iload_n 1, 1), (52, .iaload, 1), (53, .invokevirtual 115, 3), (56, .aload_n 0, 1), (57, .getfield 22, 3), (60, .if_icmp .lt 7, 3), (63, .iconst 1, 1), (64, .goto 4, 3)] := by decide +kernel
theorem dX10_likeBeside_41 : decode cX10_likeBeside 41 = .ok (.aload_n 0, 1) := dz_at dqX10_likeBeside_p112 0 rfl
theorem dX10_likeBeside_42 : decode cX10_likeBeside 42 = .ok (.getfield 32, 3) := dz_at dqX10_likeBeside_p112 1 rfl
theorem dX10_likeBeside_45 : decode cX10_likeBeside 45 = .ok (.iload_n 3, 1) := dz_at dqX10_likeBeside_p112 2 rfl
theorem dX10_likeBeside_46 : decode cX10_likeBeside 46 = .ok (.iaload, 1) := dz_at dqX10_likeBeside_p112 3 rfl
theorem dX10_likeBeside_47 : decode cX10_likeBeside 47 = .ok (.aload_n 0, 1) := dz_at dqX10_likeBeside_p112 4 rfl
theorem dX10_likeBeside_48 : decode cX10_likeBeside 48 = .ok (.getfield 32, 3) := dz_at dqX10_likeBeside_p112 5 rfl
theorem dX10_likeBeside_51 : decode cX10_likeBeside 51 = .ok (.iload_n 1, 1) := dz_at dqX10_likeBeside_p112 6 rfl
theorem dX10_likeBeside_52 : decode cX10_likeBeside 52 = .ok (.iaload, 1) := dz_at dqX10_likeBeside_p112 7 rfl
theorem dX10_likeBeside_53 : decode cX10_likeBeside 53 = .ok (.invokevirtual 115, 3) := dz_at dqX10_likeBeside_p112 8 rfl
theorem dX10_likeBeside_56 : decode cX10_likeBeside 56 = .ok (.aload_n 0, 1) := dz_at dqX10_likeBeside_p112 9 rfl
theorem dX10_likeBeside_57 : decode cX10_likeBeside 57 = .ok (.getfield 22, 3) := dz_at dqX10_likeBeside_p112 10 rfl
theorem dX10_likeBeside_60 : decode cX10_likeBeside 60 = .ok (.if_icmp .lt 7, 3) := dz_at dqX10_likeBeside_p112 11 rfl
theorem dX10_likeBeside_63 : decode cX10_likeBeside 63 = .ok (.iconst 1, 1) := dz_at dqX10_likeBeside_p112 12 rfl
theorem dX10_likeBeside_64 : decode cX10_likeBeside 64 = .ok (.goto 4, 3) := dz_at dqX10_likeBeside_p112 13 rfl
set_option maxRecDepth 20000 in
theorem dqX10_likeBeside_p113 : dz_rn 67 (cX10_likeBeside.data.toList.drop 67) [(0, 8), (0, 11), (0, 20), (5, 0), (4, 0), (0, 2), (0, 12)] = some [(67, .iconst 0, 1), (68, .iadd, 1), (69, .istore_n 2, 1), (70, .iinc 3 1, 3), (73, .goto (-63), 3), (76, .iload_n 2, 1), (77, .ireturn, 1)] := by decide +kernel
theorem dX10_likeBeside_67 : decode cX10_likeBeside 67 = .ok (.iconst 0, 1) := dz_at dqX10_likeBeside_p113 0 rfl
theorem dX10_likeBeside_68 : decode cX10_likeBeside 68 = .ok (.iadd, 1) := dz_at dqX10_likeBeside_p113 1 rfl
theorem dX10_likeBeside_69 : decode cX10_likeBeside 69 = .ok (.istore_n 2, 1) := dz_at dqX10_likeBeside_p113 2 rfl
theorem dX10_likeBeside_70 : decode cX10_likeBeside 70 = .ok (.iinc 3 1, 3) := dz_at dqX10_likeBeside_p113 3 rfl
theorem dX10_likeBeside_73 : decode cX10_likeBeside 73 = .ok (.goto (-63), 3) := dz_at dqX10_likeBeside_p113 4 rfl
theorem dX10_likeBeside_76 : decode cX10_likeBeside 76 = .ok (.iload_n 2, 1) := dz_at dqX10_likeBeside_p113 5 rfl
theorem dX10_likeBeside_77 : decode cX10_likeBeside 77 = .ok (.ireturn, 1) := dz_at dqX10_likeBeside_p113 6 rfl
set_option maxRecDepth 20000 in
theorem ggX10_goDay_X10_likeBeside : GoodIn wsX10_goDay wsX10_likeBeside := goodIn_r _ [9, 3, 10, 11, 12, 13, 8, 14, 15, 16, 17, 18, 19, 20, 21, 22, 23, 24, 25, 26, 27, 28, 29, 30, 31, 32, 33, 34, 35, 36, 37, 38, 39, 40, 41, 42, 43, 44, 45, 46, 47, 48, 49, 50, 51, 52, 53, 54] rfl (by decide +kernel)
set_option maxRecDepth 20000 in
theorem gX10_goDay_X10_likeBeside : GoodIn wsX10_goDay (wsV RX10 128 RX10 yX10_likeBeside wsX10_likeBeside) := goodIn_app (goodIn_of _ (by decide +kernel)) ggX10_goDay_X10_likeBeside
set_option maxRecDepth 20000 in
theorem dqX10_goDay_p110 : dz_rn 0 (cX10_goDay.data.toList.drop 0) [(0, 8), (0, 21), (0, 3), (2, 0), (4, 4), (0, 4), (3, 0), (0, 1), (0, 3), (0, 11), (0, 10), (1, 1), (0, 4), (3, 0)] = some [(0, .iconst 0, 1), (1, .istore_n 3, 1), (2, .iload_n 3, 1), (3, .bipush 48, 2), (5, .if_icmp .ge 117, 3), (8, .aload_n 0, 1), (9, .getfield 50, 3), (12, .iload_n 1, 1), (13, .iload_n 3, 1), (14, .iadd, 1), (15, .iaload, 1), (16, .istore 4, 2), (18, .aload_n 0, 1), (19, .getfield 53, 3)] := by decide +kernel
theorem dX10_goDay_0 : decode cX10_goDay 0 = .ok (.iconst 0, 1) := dz_at dqX10_goDay_p110 0 rfl
theorem dX10_goDay_1 : decode cX10_goDay 1 = .ok (.istore_n 3, 1) := dz_at dqX10_goDay_p110 1 rfl
theorem dX10_goDay_2 : decode cX10_goDay 2 = .ok (.iload_n 3, 1) := dz_at dqX10_goDay_p110 2 rfl
theorem dX10_goDay_3 : decode cX10_goDay 3 = .ok (.bipush 48, 2) := dz_at dqX10_goDay_p110 3 rfl
theorem dX10_goDay_5 : decode cX10_goDay 5 = .ok (.if_icmp .ge 117, 3) := dz_at dqX10_goDay_p110 4 rfl
theorem dX10_goDay_8 : decode cX10_goDay 8 = .ok (.aload_n 0, 1) := dz_at dqX10_goDay_p110 5 rfl
theorem dX10_goDay_9 : decode cX10_goDay 9 = .ok (.getfield 50, 3) := dz_at dqX10_goDay_p110 6 rfl
theorem dX10_goDay_12 : decode cX10_goDay 12 = .ok (.iload_n 1, 1) := dz_at dqX10_goDay_p110 7 rfl
theorem dX10_goDay_13 : decode cX10_goDay 13 = .ok (.iload_n 3, 1) := dz_at dqX10_goDay_p110 8 rfl
theorem dX10_goDay_14 : decode cX10_goDay 14 = .ok (.iadd, 1) := dz_at dqX10_goDay_p110 9 rfl
theorem dX10_goDay_15 : decode cX10_goDay 15 = .ok (.iaload, 1) := dz_at dqX10_goDay_p110 10 rfl
theorem dX10_goDay_16 : decode cX10_goDay 16 = .ok (.istore 4, 2) := dz_at dqX10_goDay_p110 11 rfl
theorem dX10_goDay_18 : decode cX10_goDay 18 = .ok (.aload_n 0, 1) := dz_at dqX10_goDay_p110 12 rfl
theorem dX10_goDay_19 : decode cX10_goDay 19 = .ok (.getfield 53, 3) := dz_at dqX10_goDay_p110 13 rfl
set_option maxRecDepth 20000 in
theorem dqX10_goDay_p111 : dz_rn 22 (cX10_goDay.data.toList.drop 22) [(0, 1), (0, 3), (0, 11), (0, 10), (1, 1), (0, 4), (3, 0), (0, 3), (0, 10), (0, 13), (4, 2), (0, 8), (4, 0), (1, 0)] = some [(22, .iload_n 1, 1), (23, .iload_n 3, 1), (24, .iadd, 1), (25, .iaload, 1), (26, .istore 5, 2), (28, .aload_n 0, 1), (29, .getfield 32, 3), (32, .iload_n 3, 1), (33, .iaload, 1), (34, .iconst (-1), 1), (35, .if_icmp .ne 7, 3), (38, .iconst 0, 1), (39, .goto 22, 3), (42, .iload 4, 2)] := by decide +kernel
theorem dX10_goDay_22 : decode cX10_goDay 22 = .ok (.iload_n 1, 1) := dz_at dqX10_goDay_p111 0 rfl
theorem dX10_goDay_23 : decode cX10_goDay 23 = .ok (.iload_n 3, 1) := dz_at dqX10_goDay_p111 1 rfl
theorem dX10_goDay_24 : decode cX10_goDay 24 = .ok (.iadd, 1) := dz_at dqX10_goDay_p111 2 rfl
theorem dX10_goDay_25 : decode cX10_goDay 25 = .ok (.iaload, 1) := dz_at dqX10_goDay_p111 3 rfl
theorem dX10_goDay_26 : decode cX10_goDay 26 = .ok (.istore 5, 2) := dz_at dqX10_goDay_p111 4 rfl
theorem dX10_goDay_28 : decode cX10_goDay 28 = .ok (.aload_n 0, 1) := dz_at dqX10_goDay_p111 5 rfl
theorem dX10_goDay_29 : decode cX10_goDay 29 = .ok (.getfield 32, 3) := dz_at dqX10_goDay_p111 6 rfl
theorem dX10_goDay_32 : decode cX10_goDay 32 = .ok (.iload_n 3, 1) := dz_at dqX10_goDay_p111 7 rfl
theorem dX10_goDay_33 : decode cX10_goDay 33 = .ok (.iaload, 1) := dz_at dqX10_goDay_p111 8 rfl
theorem dX10_goDay_34 : decode cX10_goDay 34 = .ok (.iconst (-1), 1) := dz_at dqX10_goDay_p111 9 rfl
theorem dX10_goDay_35 : decode cX10_goDay 35 = .ok (.if_icmp .ne 7, 3) := dz_at dqX10_goDay_p111 10 rfl
theorem dX10_goDay_38 : decode cX10_goDay 38 = .ok (.iconst 0, 1) := dz_at dqX10_goDay_p111 11 rfl
theorem dX10_goDay_39 : decode cX10_goDay 39 = .ok (.goto 22, 3) := dz_at dqX10_goDay_p111 12 rfl
theorem dX10_goDay_42 : decode cX10_goDay 42 = .ok (.iload 4, 2) := dz_at dqX10_goDay_p111 13 rfl
set_option maxRecDepth 20000 in
theorem dqX10_goDay_p112 : dz_rn 44 (cX10_goDay.data.toList.drop 44) [(0, 4), (3, 0), (1, 0), (2, 0), (0, 27), (0, 10), (0, 26), (0, 4), (0, 3), (3, 1), (0, 26), (1, 1), (1, 0), (0, 4)] = some [(44, .aload_n 0, 1), (45, .getfield 29, 3), (48, .iload 4, 2), (50, .bipush 10, 2), (52, .idiv, 1), (53, .iaload, 1), (54, .isub, 1), (55, .aload_n 0, 1), (56, .iload_n 3, 1), (57, .invokevirtual 128, 3), (60, .isub, 1), (61, .istore 4, 2), (63, .iload 5, 2), (65, .aload_n 0, 1)] := by decide +kernel
theorem dX10_goDay_44 : decode cX10_goDay 44 = .ok (.aload_n 0, 1) := dz_at dqX10_goDay_p112 0 rfl
theorem dX10_goDay_45 : decode cX10_goDay 45 = .ok (.getfield 29, 3) := dz_at dqX10_goDay_p112 1 rfl
theorem dX10_goDay_48 : decode cX10_goDay 48 = .ok (.iload 4, 2) := dz_at dqX10_goDay_p112 2 rfl
theorem dX10_goDay_50 : decode cX10_goDay 50 = .ok (.bipush 10, 2) := dz_at dqX10_goDay_p112 3 rfl
theorem dX10_goDay_52 : decode cX10_goDay 52 = .ok (.idiv, 1) := dz_at dqX10_goDay_p112 4 rfl
theorem dX10_goDay_53 : decode cX10_goDay 53 = .ok (.iaload, 1) := dz_at dqX10_goDay_p112 5 rfl
theorem dX10_goDay_54 : decode cX10_goDay 54 = .ok (.isub, 1) := dz_at dqX10_goDay_p112 6 rfl
theorem dX10_goDay_55 : decode cX10_goDay 55 = .ok (.aload_n 0, 1) := dz_at dqX10_goDay_p112 7 rfl
theorem dX10_goDay_56 : decode cX10_goDay 56 = .ok (.iload_n 3, 1) := dz_at dqX10_goDay_p112 8 rfl
theorem dX10_goDay_57 : decode cX10_goDay 57 = .ok (.invokevirtual 128, 3) := dz_at dqX10_goDay_p112 9 rfl
theorem dX10_goDay_60 : decode cX10_goDay 60 = .ok (.isub, 1) := dz_at dqX10_goDay_p112 10 rfl
theorem dX10_goDay_61 : decode cX10_goDay 61 = .ok (.istore 4, 2) := dz_at dqX10_goDay_p112 11 rfl
theorem dX10_goDay_63 : decode cX10_goDay 63 = .ok (.iload 5, 2) := dz_at dqX10_goDay_p112 12 rfl
theorem dX10_goDay_65 : decode cX10_goDay 65 = .ok (.aload_n 0, 1) := dz_at dqX10_goDay_p112 13 rfl
set_option maxRecDepth 20000 in
theorem dqX10_goDay_p113 : dz_rn 66 (cX10_goDay.data.toList.drop 66) [(3, 0), (1, 0), (2, 0), (0, 27), (0, 10), (0, 26), (1, 1), (0, 4), (3, 0), (0, 2), (0, 3), (0, 11), (1, 0), (4, 10)] = some [(66, .getfield 29, 3), (69, .iload 5, 2), (71, .bipush 10, 2), (73, .idiv, 1), (74, .iaload, 1), (75, .isub, 1), (76, .istore 5, 2), (78, .aload_n 0, 1), (79, .getfield 50, 3), (82, .iload_n 2, 1), (83, .iload_n 3, 1), (84, .iadd, 1), (85, .iload 4, 2), (87, .ifCond .ge 7, 3)] := by decide +kernel
theorem dX10_goDay_66 : decode cX10_goDay 66 = .ok (.getfield 29, 3) := dz_at dqX10_goDay_p113 0 rfl
theorem dX10_goDay_69 : decode cX10_goDay 69 = .ok (.iload 5, 2) := dz_at dqX10_goDay_p113 1 rfl
theorem dX10_goDay_71 : decode cX10_goDay 71 = .ok (.bipush 10, 2) := dz_at dqX10_goDay_p113 2 rfl
theorem dX10_goDay_73 : decode cX10_goDay 73 = .ok (.idiv, 1) := dz_at dqX10_goDay_p113 3 rfl
theorem dX10_goDay_74 : decode cX10_goDay 74 = .ok (.iaload, 1) := dz_at dqX10_goDay_p113 4 rfl
theorem dX10_goDay_75 : decode cX10_goDay 75 = .ok (.isub, 1) := dz_at dqX10_goDay_p113 5 rfl
theorem dX10_goDay_76 : decode cX10_goDay 76 = .ok (.istore 5, 2) := dz_at dqX10_goDay_p113 6 rfl
theorem dX10_goDay_78 : decode cX10_goDay 78 = .ok (.aload_n 0, 1) := dz_at dqX10_goDay_p113 7 rfl
theorem dX10_goDay_79 : decode cX10_goDay 79 = .ok (.getfield 50, 3) := dz_at dqX10_goDay_p113 8 rfl
theorem dX10_goDay_82 : decode cX10_goDay 82 = .ok (.iload_n 2, 1) := dz_at dqX10_goDay_p113 9 rfl
theorem dX10_goDay_83 : decode cX10_goDay 83 = .ok (.iload_n 3, 1) := dz_at dqX10_goDay_p113 10 rfl
theorem dX10_goDay_84 : decode cX10_goDay 84 = .ok (.iadd, 1) := dz_at dqX10_goDay_p113 11 rfl
theorem dX10_goDay_85 : decode cX10_goDay 85 = .ok (.iload 4, 2) := dz_at dqX10_goDay_p113 12 rfl
theorem dX10_goDay_87 : decode cX10_goDay 87 = .ok (.ifCond .ge 7, 3) := dz_at dqX10_goDay_p113 13 rfl
set_option maxRecDepth 20000 in
theorem dqX10_goDay_p114 : dz_rn 90 (cX10_goDay.data.toList.drop 90) [(0, 8), (4, 0), (1, 0), (0, 22), (0, 4), (3, 0), (0, 2), (0, 3), (0, 11), (1, 0), (4, 10), (0, 8), (4, 0), (1, 0)] = some [(90, .iconst 0, 1), (91, .goto 5, 3), (94, .iload 4, 2), (96, .iastore, 1), (97, .aload_n 0, 1), (98, .getfield 53, 3), (101, .iload_n 2, 1), (102, .iload_n 3, 1), (103, .iadd, 1), (104, .iload 5, 2), (106, .ifCond .ge 7, 3), (109, .iconst 0, 1), (110, .goto 5, 3), (113, .iload 5, 2)] := by decide +kernel
theorem dX10_goDay_90 : decode cX10_goDay 90 = .ok (.iconst 0, 1) := dz_at dqX10_goDay_p114 0 rfl
theorem dX10_goDay_91 : decode cX10_goDay 91 = .ok (.goto 5, 3) := dz_at dqX10_goDay_p114 1 rfl
theorem dX10_goDay_94 : decode cX10_goDay 94 = .ok (.iload 4, 2) := dz_at dqX10_goDay_p114 2 rfl
theorem dX10_goDay_96 : decode cX10_goDay 96 = .ok (.iastore, 1) := dz_at dqX10_goDay_p114 3 rfl
theorem dX10_goDay_97 : decode cX10_goDay 97 = .ok (.aload_n 0, 1) := dz_at dqX10_goDay_p114 4 rfl
theorem dX10_goDay_98 : decode cX10_goDay 98 = .ok (.getfield 53, 3) := dz_at dqX10_goDay_p114 5 rfl
theorem dX10_goDay_101 : decode cX10_goDay 101 = .ok (.iload_n 2, 1) := dz_at dqX10_goDay_p114 6 rfl
theorem dX10_goDay_102 : decode cX10_goDay 102 = .ok (.iload_n 3, 1) := dz_at dqX10_goDay_p114 7 rfl
theorem dX10_goDay_103 : decode cX10_goDay 103 = .ok (.iadd, 1) := dz_at dqX10_goDay_p114 8 rfl
theorem dX10_goDay_104 : decode cX10_goDay 104 = .ok (.iload 5, 2) := dz_at dqX10_goDay_p114 9 rfl
theorem dX10_goDay_106 : decode cX10_goDay 106 = .ok (.ifCond .ge 7, 3) := dz_at dqX10_goDay_p114 10 rfl
theorem dX10_goDay_109 : decode cX10_goDay 109 = .ok (.iconst 0, 1) := dz_at dqX10_goDay_p114 11 rfl
theorem dX10_goDay_110 : decode cX10_goDay 110 = .ok (.goto 5, 3) := dz_at dqX10_goDay_p114 12 rfl
theorem dX10_goDay_113 : decode cX10_goDay 113 = .ok (.iload 5, 2) := dz_at dqX10_goDay_p114 13 rfl
set_option maxRecDepth 20000 in
theorem dqX10_goDay_p115 : dz_rn 115 (cX10_goDay.data.toList.drop 115) [(0, 22), (5, 0), (4, 0), (0, 25)] = some [(115, .iastore, 1), (116, .iinc 3 1, 3), (119, .goto (-117), 3), (122, .return_, 1)] := by decide +kernel
theorem dX10_goDay_115 : decode cX10_goDay 115 = .ok (.iastore, 1) := dz_at dqX10_goDay_p115 0 rfl
theorem dX10_goDay_116 : decode cX10_goDay 116 = .ok (.iinc 3 1, 3) := dz_at dqX10_goDay_p115 1 rfl
theorem dX10_goDay_119 : decode cX10_goDay 119 = .ok (.goto (-117), 3) := dz_at dqX10_goDay_p115 2 rfl
theorem dX10_goDay_122 : decode cX10_goDay 122 = .ok (.return_, 1) := dz_at dqX10_goDay_p115 3 rfl
set_option maxRecDepth 20000 in
theorem dqX10_lookAhead_p110 : dz_rn 0 (cX10_lookAhead.data.toList.drop 0) [(0, 8), (0, 19), (0, 1), (2, 0), (4, 4), (0, 4), (3, 0), (0, 1), (0, 4), (3, 0), (0, 1), (0, 10), (0, 13), (4, 2)] = some [(0, .iconst 0, 1), (1, .istore_n 1, 1), (2, .iload_n 1, 1), (3, .bipush 48, 2), (5, .if_icmp .ge 61, 3), (8, .aload_n 0, 1), (9, .getfield 50, 3), (12, .iload_n 1, 1), (13, .aload_n 0, 1), (14, .getfield 32, 3), (17, .iload_n 1, 1), (18, .iaload, 1), (19, .iconst (-1), 1), (20, .if_icmp .ne 7, 3)] := by decide +kernel
theorem dX10_lookAhead_0 : decode cX10_lookAhead 0 = .ok (.iconst 0, 1) := dz_at dqX10_lookAhead_p110 0 rfl
theorem dX10_lookAhead_1 : decode cX10_lookAhead 1 = .ok (.istore_n 1, 1) := dz_at dqX10_lookAhead_p110 1 rfl
theorem dX10_lookAhead_2 : decode cX10_lookAhead 2 = .ok (.iload_n 1, 1) := dz_at dqX10_lookAhead_p110 2 rfl
theorem dX10_lookAhead_3 : decode cX10_lookAhead 3 = .ok (.bipush 48, 2) := dz_at dqX10_lookAhead_p110 3 rfl
theorem dX10_lookAhead_5 : decode cX10_lookAhead 5 = .ok (.if_icmp .ge 61, 3) := dz_at dqX10_lookAhead_p110 4 rfl
theorem dX10_lookAhead_8 : decode cX10_lookAhead 8 = .ok (.aload_n 0, 1) := dz_at dqX10_lookAhead_p110 5 rfl
theorem dX10_lookAhead_9 : decode cX10_lookAhead 9 = .ok (.getfield 50, 3) := dz_at dqX10_lookAhead_p110 6 rfl
theorem dX10_lookAhead_12 : decode cX10_lookAhead 12 = .ok (.iload_n 1, 1) := dz_at dqX10_lookAhead_p110 7 rfl
theorem dX10_lookAhead_13 : decode cX10_lookAhead 13 = .ok (.aload_n 0, 1) := dz_at dqX10_lookAhead_p110 8 rfl
theorem dX10_lookAhead_14 : decode cX10_lookAhead 14 = .ok (.getfield 32, 3) := dz_at dqX10_lookAhead_p110 9 rfl
theorem dX10_lookAhead_17 : decode cX10_lookAhead 17 = .ok (.iload_n 1, 1) := dz_at dqX10_lookAhead_p110 10 rfl
theorem dX10_lookAhead_18 : decode cX10_lookAhead 18 = .ok (.iaload, 1) := dz_at dqX10_lookAhead_p110 11 rfl
theorem dX10_lookAhead_19 : decode cX10_lookAhead 19 = .ok (.iconst (-1), 1) := dz_at dqX10_lookAhead_p110 12 rfl
theorem dX10_lookAhead_20 : decode cX10_lookAhead 20 = .ok (.if_icmp .ne 7, 3) := dz_at dqX10_lookAhead_p110 13 rfl
set_option maxRecDepth 20000 in
theorem dqX10_lookAhead_p111 : dz_rn 23 (cX10_lookAhead.data.toList.drop 23) [(0, 8), (4, 0), (0, 4), (3, 0), (0, 1), (0, 10), (0, 22), (0, 4), (3, 0), (0, 1), (0, 4), (3, 0), (0, 1), (0, 10)] = some [(23, .iconst 0, 1), (24, .goto 9, 3), (27, .aload_n 0, 1), (28, .getfield 35, 3), (31, .iload_n 1, 1), (32, .iaload, 1), (33, .iastore, 1), (34, .aload_n 0, 1), (35, .getfield 53, 3), (38, .iload_n 1, 1), (39, .aload_n 0, 1), (40, .getfield 38, 3), (43, .iload_n 1, 1), (44, .iaload, 1)] := by decide +kernel
theorem dX10_lookAhead_23 : decode cX10_lookAhead 23 = .ok (.iconst 0, 1) := dz_at dqX10_lookAhead_p111 0 rfl
theorem dX10_lookAhead_24 : decode cX10_lookAhead 24 = .ok (.goto 9, 3) := dz_at dqX10_lookAhead_p111 1 rfl
theorem dX10_lookAhead_27 : decode cX10_lookAhead 27 = .ok (.aload_n 0, 1) := dz_at dqX10_lookAhead_p111 2 rfl
theorem dX10_lookAhead_28 : decode cX10_lookAhead 28 = .ok (.getfield 35, 3) := dz_at dqX10_lookAhead_p111 3 rfl
theorem dX10_lookAhead_31 : decode cX10_lookAhead 31 = .ok (.iload_n 1, 1) := dz_at dqX10_lookAhead_p111 4 rfl
theorem dX10_lookAhead_32 : decode cX10_lookAhead 32 = .ok (.iaload, 1) := dz_at dqX10_lookAhead_p111 5 rfl
theorem dX10_lookAhead_33 : decode cX10_lookAhead 33 = .ok (.iastore, 1) := dz_at dqX10_lookAhead_p111 6 rfl
theorem dX10_lookAhead_34 : decode cX10_lookAhead 34 = .ok (.aload_n 0, 1) := dz_at dqX10_lookAhead_p111 7 rfl
theorem dX10_lookAhead_35 : decode cX10_lookAhead 35 = .ok (.getfield 53, 3) := dz_at dqX10_lookAhead_p111 8 rfl
theorem dX10_lookAhead_38 : decode cX10_lookAhead 38 = .ok (.iload_n 1, 1) := dz_at dqX10_lookAhead_p111 9 rfl
theorem dX10_lookAhead_39 : decode cX10_lookAhead 39 = .ok (.aload_n 0, 1) := dz_at dqX10_lookAhead_p111 10 rfl
theorem dX10_lookAhead_40 : decode cX10_lookAhead 40 = .ok (.getfield 38, 3) := dz_at dqX10_lookAhead_p111 11 rfl
theorem dX10_lookAhead_43 : decode cX10_lookAhead 43 = .ok (.iload_n 1, 1) := dz_at dqX10_lookAhead_p111 12 rfl
theorem dX10_lookAhead_44 : decode cX10_lookAhead 44 = .ok (.iaload, 1) := dz_at dqX10_lookAhead_p111 13 rfl
set_option maxRecDepth 20000 in
theorem dqX10_lookAhead_p112 : dz_rn 45 (cX10_lookAhead.data.toList.drop 45) [(0, 13), (4, 2), (0, 8), (4, 0), (0, 4), (3, 0), (0, 1), (0, 10), (0, 22), (5, 0), (4, 0), (0, 25)] = some [(45, .iconst (-1), 1), (46, .if_icmp .ne 7, 3), (49, .iconst 0, 1), (50, .goto 9, 3), (53, .aload_n 0, 1), (54, .getfield 41, 3), (57, .iload_n 1, 1), (58, .iaload, 1), (59, .iastore, 1), (60, .iinc 1 1, 3), (63, .goto (-61), 3), (66, .return_, 1)] := by decide +kernel
theorem dX10_lookAhead_45 : decode cX10_lookAhead 45 = .ok (.iconst (-1), 1) := dz_at dqX10_lookAhead_p112 0 rfl
theorem dX10_lookAhead_46 : decode cX10_lookAhead 46 = .ok (.if_icmp .ne 7, 3) := dz_at dqX10_lookAhead_p112 1 rfl
theorem dX10_lookAhead_49 : decode cX10_lookAhead 49 = .ok (.iconst 0, 1) := dz_at dqX10_lookAhead_p112 2 rfl
theorem dX10_lookAhead_50 : decode cX10_lookAhead 50 = .ok (.goto 9, 3) := dz_at dqX10_lookAhead_p112 3 rfl
theorem dX10_lookAhead_53 : decode cX10_lookAhead 53 = .ok (.aload_n 0, 1) := dz_at dqX10_lookAhead_p112 4 rfl
theorem dX10_lookAhead_54 : decode cX10_lookAhead 54 = .ok (.getfield 41, 3) := dz_at dqX10_lookAhead_p112 5 rfl
theorem dX10_lookAhead_57 : decode cX10_lookAhead 57 = .ok (.iload_n 1, 1) := dz_at dqX10_lookAhead_p112 6 rfl
theorem dX10_lookAhead_58 : decode cX10_lookAhead 58 = .ok (.iaload, 1) := dz_at dqX10_lookAhead_p112 7 rfl
theorem dX10_lookAhead_59 : decode cX10_lookAhead 59 = .ok (.iastore, 1) := dz_at dqX10_lookAhead_p112 8 rfl
theorem dX10_lookAhead_60 : decode cX10_lookAhead 60 = .ok (.iinc 1 1, 3) := dz_at dqX10_lookAhead_p112 9 rfl
theorem dX10_lookAhead_63 : decode cX10_lookAhead 63 = .ok (.goto (-61), 3) := dz_at dqX10_lookAhead_p112 10 rfl
theorem dX10_lookAhead_66 : decode cX10_lookAhead 66 = .ok (.return_, 1) := dz_at dqX10_lookAhead_p112 11 rfl
set_option maxRecDepth 20000 in
theorem ggX10_days_X10_in : GoodIn wsX10_days wsX10_in := goodIn_r _ [10] rfl (by decide +kernel)
set_option maxRecDepth 20000 in
theorem gX10_days_X10_in : GoodIn wsX10_days (va_wsS RX10 93 yX10_in wsX10_in) := goodIn_app (goodIn_of _ (by decide +kernel)) ggX10_days_X10_in
set_option maxRecDepth 20000 in
theorem ggX10_days_X10_lookAhead : GoodIn wsX10_days wsX10_lookAhead := goodIn_r _ [14, 3, 15, 2, 5, 6, 4, 31, 32, 33, 34, 35, 36, 37, 38, 39, 40, 41, 42, 43, 44, 45, 46, 47, 48, 49, 50, 51, 52, 53, 54, 55, 56, 57, 58, 59, 60, 61, 62, 63, 64, 65, 66, 67, 68, 69] rfl (by decide +kernel)
set_option maxRecDepth 20000 in
theorem gX10_days_X10_lookAhead : GoodIn wsX10_days (wsV RX10 131 RX10 yX10_lookAhead wsX10_lookAhead) := goodIn_app (goodIn_of _ (by decide +kernel)) ggX10_days_X10_lookAhead
set_option maxRecDepth 20000 in
theorem ggX10_days_X10_goDay : GoodIn wsX10_days wsX10_goDay := goodIn_r _ [19, 3, 5, 15, 20, 21, 22, 23, 9, 24, 25, 26, 27, 28, 29, 30, 31, 32, 33, 34, 35, 36, 37, 38, 39, 40, 41, 42, 43, 44, 45, 46, 47, 48, 49, 50, 51, 52, 53, 54, 55, 56, 57, 58, 59, 60, 61, 62, 63, 64, 65, 66, 67, 68, 69] rfl (by decide +kernel)
set_option maxRecDepth 20000 in
theorem gX10_days_X10_goDay : GoodIn wsX10_days (wsV RX10 134 RX10 yX10_goDay wsX10_goDay) := goodIn_app (goodIn_of _ (by decide +kernel)) ggX10_days_X10_goDay
set_option maxRecDepth 20000 in
theorem dqX10_days_p110 : dz_rn 0 (cX10_days.data.toList.drop 0) [(0, 1), (0, 9), (2, 0), (3, 2), (4, 7), (0, 4), (3, 0), (0, 1), (0, 11), (4, 13), (4, 6), (2, 0), (0, 12), (0, 4)] = some [(0, .iload_n 1, 1), (1, .iconst 1, 1), (2, .bipush 60, 2), (4, .invokestatic 93, 3), (7, .ifCond .eq 15, 3), (10, .aload_n 0, 1), (11, .getfield 125, 3), (14, .iload_n 1, 1), (15, .iadd, 1), (16, .sipush 400, 3), (19, .if_icmp .le 6, 3), (22, .bipush (-3), 2), (24, .ireturn, 1), (25, .aload_n 0, 1)] := by decide +kernel
theorem dX10_days_0 : decode cX10_days 0 = .ok (.iload_n 1, 1) := dz_at dqX10_days_p110 0 rfl
theorem dX10_days_1 : decode cX10_days 1 = .ok (.iconst 1, 1) := dz_at dqX10_days_p110 1 rfl
theorem dX10_days_2 : decode cX10_days 2 = .ok (.bipush 60, 2) := dz_at dqX10_days_p110 2 rfl
theorem dX10_days_4 : decode cX10_days 4 = .ok (.invokestatic 93, 3) := dz_at dqX10_days_p110 3 rfl
theorem dX10_days_7 : decode cX10_days 7 = .ok (.ifCond .eq 15, 3) := dz_at dqX10_days_p110 4 rfl
theorem dX10_days_10 : decode cX10_days 10 = .ok (.aload_n 0, 1) := dz_at dqX10_days_p110 5 rfl
theorem dX10_days_11 : decode cX10_days 11 = .ok (.getfield 125, 3) := dz_at dqX10_days_p110 6 rfl
theorem dX10_days_14 : decode cX10_days 14 = .ok (.iload_n 1, 1) := dz_at dqX10_days_p110 7 rfl
theorem dX10_days_15 : decode cX10_days 15 = .ok (.iadd, 1) := dz_at dqX10_days_p110 8 rfl
theorem dX10_days_16 : decode cX10_days 16 = .ok (.sipush 400, 3) := dz_at dqX10_days_p110 9 rfl
theorem dX10_days_19 : decode cX10_days 19 = .ok (.if_icmp .le 6, 3) := dz_at dqX10_days_p110 10 rfl
theorem dX10_days_22 : decode cX10_days 22 = .ok (.bipush (-3), 2) := dz_at dqX10_days_p110 11 rfl
theorem dX10_days_24 : decode cX10_days 24 = .ok (.ireturn, 1) := dz_at dqX10_days_p110 12 rfl
theorem dX10_days_25 : decode cX10_days 25 = .ok (.aload_n 0, 1) := dz_at dqX10_days_p110 13 rfl
set_option maxRecDepth 20000 in
theorem dqX10_days_p111 : dz_rn 26 (cX10_days.data.toList.drop 26) [(3, 1), (0, 8), (0, 20), (0, 2), (0, 1), (4, 4), (0, 4), (0, 8), (0, 8), (3, 1), (5, 0), (4, 0), (0, 8), (0, 20)] = some [(26, .invokevirtual 131, 3), (29, .iconst 0, 1), (30, .istore_n 2, 1), (31, .iload_n 2, 1), (32, .iload_n 1, 1), (33, .if_icmp .ge 15, 3), (36, .aload_n 0, 1), (37, .iconst 0, 1), (38, .iconst 0, 1), (39, .invokevirtual 134, 3), (42, .iinc 2 1, 3), (45, .goto (-14), 3), (48, .iconst 0, 1), (49, .istore_n 2, 1)] := by decide +kernel
theorem dX10_days_26 : decode cX10_days 26 = .ok (.invokevirtual 131, 3) := dz_at dqX10_days_p111 0 rfl
theorem dX10_days_29 : decode cX10_days 29 = .ok (.iconst 0, 1) := dz_at dqX10_days_p111 1 rfl
theorem dX10_days_30 : decode cX10_days 30 = .ok (.istore_n 2, 1) := dz_at dqX10_days_p111 2 rfl
theorem dX10_days_31 : decode cX10_days 31 = .ok (.iload_n 2, 1) := dz_at dqX10_days_p111 3 rfl
theorem dX10_days_32 : decode cX10_days 32 = .ok (.iload_n 1, 1) := dz_at dqX10_days_p111 4 rfl
theorem dX10_days_33 : decode cX10_days 33 = .ok (.if_icmp .ge 15, 3) := dz_at dqX10_days_p111 5 rfl
theorem dX10_days_36 : decode cX10_days 36 = .ok (.aload_n 0, 1) := dz_at dqX10_days_p111 6 rfl
theorem dX10_days_37 : decode cX10_days 37 = .ok (.iconst 0, 1) := dz_at dqX10_days_p111 7 rfl
theorem dX10_days_38 : decode cX10_days 38 = .ok (.iconst 0, 1) := dz_at dqX10_days_p111 8 rfl
theorem dX10_days_39 : decode cX10_days 39 = .ok (.invokevirtual 134, 3) := dz_at dqX10_days_p111 9 rfl
theorem dX10_days_42 : decode cX10_days 42 = .ok (.iinc 2 1, 3) := dz_at dqX10_days_p111 10 rfl
theorem dX10_days_45 : decode cX10_days 45 = .ok (.goto (-14), 3) := dz_at dqX10_days_p111 11 rfl
theorem dX10_days_48 : decode cX10_days 48 = .ok (.iconst 0, 1) := dz_at dqX10_days_p111 12 rfl
theorem dX10_days_49 : decode cX10_days 49 = .ok (.istore_n 2, 1) := dz_at dqX10_days_p111 13 rfl
set_option maxRecDepth 20000 in
theorem dqX10_days_p112 : dz_rn 50 (cX10_days.data.toList.drop 50) [(0, 2), (2, 0), (4, 4), (0, 4), (3, 0), (0, 2), (0, 4), (3, 0), (0, 2), (0, 10), (0, 22), (0, 4), (3, 0), (0, 2)] = some [(50, .iload_n 2, 1), (51, .bipush 48, 2), (53, .if_icmp .ge 58, 3), (56, .aload_n 0, 1), (57, .getfield 35, 3), (60, .iload_n 2, 1), (61, .aload_n 0, 1), (62, .getfield 50, 3), (65, .iload_n 2, 1), (66, .iaload, 1), (67, .iastore, 1), (68, .aload_n 0, 1), (69, .getfield 41, 3), (72, .iload_n 2, 1)] := by decide +kernel
theorem dX10_days_50 : decode cX10_days 50 = .ok (.iload_n 2, 1) := dz_at dqX10_days_p112 0 rfl
theorem dX10_days_51 : decode cX10_days 51 = .ok (.bipush 48, 2) := dz_at dqX10_days_p112 1 rfl
theorem dX10_days_53 : decode cX10_days 53 = .ok (.if_icmp .ge 58, 3) := dz_at dqX10_days_p112 2 rfl
theorem dX10_days_56 : decode cX10_days 56 = .ok (.aload_n 0, 1) := dz_at dqX10_days_p112 3 rfl
theorem dX10_days_57 : decode cX10_days 57 = .ok (.getfield 35, 3) := dz_at dqX10_days_p112 4 rfl
theorem dX10_days_60 : decode cX10_days 60 = .ok (.iload_n 2, 1) := dz_at dqX10_days_p112 5 rfl
theorem dX10_days_61 : decode cX10_days 61 = .ok (.aload_n 0, 1) := dz_at dqX10_days_p112 6 rfl
theorem dX10_days_62 : decode cX10_days 62 = .ok (.getfield 50, 3) := dz_at dqX10_days_p112 7 rfl
theorem dX10_days_65 : decode cX10_days 65 = .ok (.iload_n 2, 1) := dz_at dqX10_days_p112 8 rfl
theorem dX10_days_66 : decode cX10_days 66 = .ok (.iaload, 1) := dz_at dqX10_days_p112 9 rfl
theorem dX10_days_67 : decode cX10_days 67 = .ok (.iastore, 1) := dz_at dqX10_days_p112 10 rfl
theorem dX10_days_68 : decode cX10_days 68 = .ok (.aload_n 0, 1) := dz_at dqX10_days_p112 11 rfl
theorem dX10_days_69 : decode cX10_days 69 = .ok (.getfield 41, 3) := dz_at dqX10_days_p112 12 rfl
theorem dX10_days_72 : decode cX10_days 72 = .ok (.iload_n 2, 1) := dz_at dqX10_days_p112 13 rfl
set_option maxRecDepth 20000 in
theorem dqX10_days_p113 : dz_rn 73 (cX10_days.data.toList.drop 73) [(0, 4), (3, 0), (0, 2), (0, 10), (0, 22), (0, 4), (3, 0), (0, 2), (0, 4), (3, 0), (0, 2), (0, 10), (4, 8), (0, 13)] = some [(73, .aload_n 0, 1), (74, .getfield 53, 3), (77, .iload_n 2, 1), (78, .iaload, 1), (79, .iastore, 1), (80, .aload_n 0, 1), (81, .getfield 38, 3), (84, .iload_n 2, 1), (85, .aload_n 0, 1), (86, .getfield 41, 3), (89, .iload_n 2, 1), (90, .iaload, 1), (91, .ifCond .ne 7, 3), (94, .iconst (-1), 1)] := by decide +kernel
theorem dX10_days_73 : decode cX10_days 73 = .ok (.aload_n 0, 1) := dz_at dqX10_days_p113 0 rfl
theorem dX10_days_74 : decode cX10_days 74 = .ok (.getfield 53, 3) := dz_at dqX10_days_p113 1 rfl
theorem dX10_days_77 : decode cX10_days 77 = .ok (.iload_n 2, 1) := dz_at dqX10_days_p113 2 rfl
theorem dX10_days_78 : decode cX10_days 78 = .ok (.iaload, 1) := dz_at dqX10_days_p113 3 rfl
theorem dX10_days_79 : decode cX10_days 79 = .ok (.iastore, 1) := dz_at dqX10_days_p113 4 rfl
theorem dX10_days_80 : decode cX10_days 80 = .ok (.aload_n 0, 1) := dz_at dqX10_days_p113 5 rfl
theorem dX10_days_81 : decode cX10_days 81 = .ok (.getfield 38, 3) := dz_at dqX10_days_p113 6 rfl
theorem dX10_days_84 : decode cX10_days 84 = .ok (.iload_n 2, 1) := dz_at dqX10_days_p113 7 rfl
theorem dX10_days_85 : decode cX10_days 85 = .ok (.aload_n 0, 1) := dz_at dqX10_days_p113 8 rfl
theorem dX10_days_86 : decode cX10_days 86 = .ok (.getfield 41, 3) := dz_at dqX10_days_p113 9 rfl
theorem dX10_days_89 : decode cX10_days 89 = .ok (.iload_n 2, 1) := dz_at dqX10_days_p113 10 rfl
theorem dX10_days_90 : decode cX10_days 90 = .ok (.iaload, 1) := dz_at dqX10_days_p113 11 rfl
theorem dX10_days_91 : decode cX10_days 91 = .ok (.ifCond .ne 7, 3) := dz_at dqX10_days_p113 12 rfl
theorem dX10_days_94 : decode cX10_days 94 = .ok (.iconst (-1), 1) := dz_at dqX10_days_p113 13 rfl
set_option maxRecDepth 20000 in
theorem dqX10_days_p114 : dz_rn 95 (cX10_days.data.toList.drop 95) [(4, 0), (0, 4), (3, 0), (0, 2), (0, 10), (0, 22), (5, 0), (4, 0), (0, 4), (0, 28), (3, 0), (0, 1), (0, 11), (3, 3)] = some [(95, .goto 9, 3), (98, .aload_n 0, 1), (99, .getfield 38, 3), (102, .iload_n 2, 1), (103, .iaload, 1), (104, .iastore, 1), (105, .iinc 2 1, 3), (108, .goto (-58), 3), (111, .aload_n 0, 1), (112, .dup, 1), (113, .getfield 125, 3), (116, .iload_n 1, 1), (117, .iadd, 1), (118, .putfield 125, 3)] := by decide +kernel
theorem dX10_days_95 : decode cX10_days 95 = .ok (.goto 9, 3) := dz_at dqX10_days_p114 0 rfl
theorem dX10_days_98 : decode cX10_days 98 = .ok (.aload_n 0, 1) := dz_at dqX10_days_p114 1 rfl
theorem dX10_days_99 : decode cX10_days 99 = .ok (.getfield 38, 3) := dz_at dqX10_days_p114 2 rfl
theorem dX10_days_102 : decode cX10_days 102 = .ok (.iload_n 2, 1) := dz_at dqX10_days_p114 3 rfl
theorem dX10_days_103 : decode cX10_days 103 = .ok (.iaload, 1) := dz_at dqX10_days_p114 4 rfl
theorem dX10_days_104 : decode cX10_days 104 = .ok (.iastore, 1) := dz_at dqX10_days_p114 5 rfl
theorem dX10_days_105 : decode cX10_days 105 = .ok (.iinc 2 1, 3) := dz_at dqX10_days_p114 6 rfl
theorem dX10_days_108 : decode cX10_days 108 = .ok (.goto (-58), 3) := dz_at dqX10_days_p114 7 rfl
theorem dX10_days_111 : decode cX10_days 111 = .ok (.aload_n 0, 1) := dz_at dqX10_days_p114 8 rfl
theorem dX10_days_112 : decode cX10_days 112 = .ok (.dup, 1) := dz_at dqX10_days_p114 9 rfl
theorem dX10_days_113 : decode cX10_days 113 = .ok (.getfield 125, 3) := dz_at dqX10_days_p114 10 rfl
theorem dX10_days_116 : decode cX10_days 116 = .ok (.iload_n 1, 1) := dz_at dqX10_days_p114 11 rfl
theorem dX10_days_117 : decode cX10_days 117 = .ok (.iadd, 1) := dz_at dqX10_days_p114 12 rfl
theorem dX10_days_118 : decode cX10_days 118 = .ok (.putfield 125, 3) := dz_at dqX10_days_p114 13 rfl
set_option maxRecDepth 20000 in
theorem dqX10_days_p115 : dz_rn 121 (cX10_days.data.toList.drop 121) [(0, 4), (3, 0), (0, 12)] = some [(121, .aload_n 0, 1), (122, .getfield 125, 3), (125, .ireturn, 1)] := by decide +kernel
theorem dX10_days_121 : decode cX10_days 121 = .ok (.aload_n 0, 1) := dz_at dqX10_days_p115 0 rfl
theorem dX10_days_122 : decode cX10_days 122 = .ok (.getfield 125, 3) := dz_at dqX10_days_p115 1 rfl
theorem dX10_days_125 : decode cX10_days 125 = .ok (.ireturn, 1) := dz_at dqX10_days_p115 2 rfl
set_option maxRecDepth 20000 in
theorem dqX10_goWalk_p110 : dz_rn 0 (cX10_goWalk.data.toList.drop 0) [(0, 8), (0, 21), (2, 0), (0, 1), (0, 23), (1, 1), (1, 0), (2, 0), (0, 1), (0, 23), (2, 0), (0, 11), (4, 4), (0, 4)] = some [(0, .iconst 0, 1), (1, .istore_n 3, 1), (2, .bipush 6, 2), (4, .iload_n 1, 1), (5, .imul, 1), (6, .istore 4, 2), (8, .iload 4, 2), (10, .bipush 6, 2), (12, .iload_n 1, 1), (13, .imul, 1), (14, .bipush 6, 2), (16, .iadd, 1), (17, .if_icmp .ge 65, 3), (20, .aload_n 0, 1)] := by decide +kernel
theorem dX10_goWalk_0 : decode cX10_goWalk 0 = .ok (.iconst 0, 1) := dz_at dqX10_goWalk_p110 0 rfl
theorem dX10_goWalk_1 : decode cX10_goWalk 1 = .ok (.istore_n 3, 1) := dz_at dqX10_goWalk_p110 1 rfl
theorem dX10_goWalk_2 : decode cX10_goWalk 2 = .ok (.bipush 6, 2) := dz_at dqX10_goWalk_p110 2 rfl
theorem dX10_goWalk_4 : decode cX10_goWalk 4 = .ok (.iload_n 1, 1) := dz_at dqX10_goWalk_p110 3 rfl
theorem dX10_goWalk_5 : decode cX10_goWalk 5 = .ok (.imul, 1) := dz_at dqX10_goWalk_p110 4 rfl
theorem dX10_goWalk_6 : decode cX10_goWalk 6 = .ok (.istore 4, 2) := dz_at dqX10_goWalk_p110 5 rfl
theorem dX10_goWalk_8 : decode cX10_goWalk 8 = .ok (.iload 4, 2) := dz_at dqX10_goWalk_p110 6 rfl
theorem dX10_goWalk_10 : decode cX10_goWalk 10 = .ok (.bipush 6, 2) := dz_at dqX10_goWalk_p110 7 rfl
theorem dX10_goWalk_12 : decode cX10_goWalk 12 = .ok (.iload_n 1, 1) := dz_at dqX10_goWalk_p110 8 rfl
theorem dX10_goWalk_13 : decode cX10_goWalk 13 = .ok (.imul, 1) := dz_at dqX10_goWalk_p110 9 rfl
theorem dX10_goWalk_14 : decode cX10_goWalk 14 = .ok (.bipush 6, 2) := dz_at dqX10_goWalk_p110 10 rfl
theorem dX10_goWalk_16 : decode cX10_goWalk 16 = .ok (.iadd, 1) := dz_at dqX10_goWalk_p110 11 rfl
theorem dX10_goWalk_17 : decode cX10_goWalk 17 = .ok (.if_icmp .ge 65, 3) := dz_at dqX10_goWalk_p110 12 rfl
theorem dX10_goWalk_20 : decode cX10_goWalk 20 = .ok (.aload_n 0, 1) := dz_at dqX10_goWalk_p110 13 rfl
set_option maxRecDepth 20000 in
theorem dqX10_goWalk_p111 : dz_rn 21 (cX10_goWalk.data.toList.drop 21) [(3, 0), (1, 0), (0, 10), (0, 13), (4, 2), (0, 8), (4, 0), (2, 0), (0, 4), (3, 0), (0, 2), (1, 0), (0, 11), (0, 10)] = some [(21, .getfield 32, 3), (24, .iload 4, 2), (26, .iaload, 1), (27, .iconst (-1), 1), (28, .if_icmp .ne 7, 3), (31, .iconst 0, 1), (32, .goto 23, 3), (35, .bipush 100, 2), (37, .aload_n 0, 1), (38, .getfield 50, 3), (41, .iload_n 2, 1), (42, .iload 4, 2), (44, .iadd, 1), (45, .iaload, 1)] := by decide +kernel
theorem dX10_goWalk_21 : decode cX10_goWalk 21 = .ok (.getfield 32, 3) := dz_at dqX10_goWalk_p111 0 rfl
theorem dX10_goWalk_24 : decode cX10_goWalk 24 = .ok (.iload 4, 2) := dz_at dqX10_goWalk_p111 1 rfl
theorem dX10_goWalk_26 : decode cX10_goWalk 26 = .ok (.iaload, 1) := dz_at dqX10_goWalk_p111 2 rfl
theorem dX10_goWalk_27 : decode cX10_goWalk 27 = .ok (.iconst (-1), 1) := dz_at dqX10_goWalk_p111 3 rfl
theorem dX10_goWalk_28 : decode cX10_goWalk 28 = .ok (.if_icmp .ne 7, 3) := dz_at dqX10_goWalk_p111 4 rfl
theorem dX10_goWalk_31 : decode cX10_goWalk 31 = .ok (.iconst 0, 1) := dz_at dqX10_goWalk_p111 5 rfl
theorem dX10_goWalk_32 : decode cX10_goWalk 32 = .ok (.goto 23, 3) := dz_at dqX10_goWalk_p111 6 rfl
theorem dX10_goWalk_35 : decode cX10_goWalk 35 = .ok (.bipush 100, 2) := dz_at dqX10_goWalk_p111 7 rfl
theorem dX10_goWalk_37 : decode cX10_goWalk 37 = .ok (.aload_n 0, 1) := dz_at dqX10_goWalk_p111 8 rfl
theorem dX10_goWalk_38 : decode cX10_goWalk 38 = .ok (.getfield 50, 3) := dz_at dqX10_goWalk_p111 9 rfl
theorem dX10_goWalk_41 : decode cX10_goWalk 41 = .ok (.iload_n 2, 1) := dz_at dqX10_goWalk_p111 10 rfl
theorem dX10_goWalk_42 : decode cX10_goWalk 42 = .ok (.iload 4, 2) := dz_at dqX10_goWalk_p111 11 rfl
theorem dX10_goWalk_44 : decode cX10_goWalk 44 = .ok (.iadd, 1) := dz_at dqX10_goWalk_p111 12 rfl
theorem dX10_goWalk_45 : decode cX10_goWalk 45 = .ok (.iaload, 1) := dz_at dqX10_goWalk_p111 13 rfl
set_option maxRecDepth 20000 in
theorem dqX10_goWalk_p112 : dz_rn 46 (cX10_goWalk.data.toList.drop 46) [(0, 26), (0, 4), (3, 0), (0, 23), (2, 0), (0, 27), (1, 1), (0, 4), (3, 0), (0, 2), (1, 0), (0, 11), (0, 41), (0, 10)] = some [(46, .isub, 1), (47, .aload_n 0, 1), (48, .getfield 26, 3), (51, .imul, 1), (52, .bipush 100, 2), (54, .idiv, 1), (55, .istore 5, 2), (57, .aload_n 0, 1), (58, .getfield 50, 3), (61, .iload_n 2, 1), (62, .iload 4, 2), (64, .iadd, 1), (65, .dup2, 1), (66, .iaload, 1)] := by decide +kernel
theorem dX10_goWalk_46 : decode cX10_goWalk 46 = .ok (.isub, 1) := dz_at dqX10_goWalk_p112 0 rfl
theorem dX10_goWalk_47 : decode cX10_goWalk 47 = .ok (.aload_n 0, 1) := dz_at dqX10_goWalk_p112 1 rfl
theorem dX10_goWalk_48 : decode cX10_goWalk 48 = .ok (.getfield 26, 3) := dz_at dqX10_goWalk_p112 2 rfl
theorem dX10_goWalk_51 : decode cX10_goWalk 51 = .ok (.imul, 1) := dz_at dqX10_goWalk_p112 3 rfl
theorem dX10_goWalk_52 : decode cX10_goWalk 52 = .ok (.bipush 100, 2) := dz_at dqX10_goWalk_p112 4 rfl
theorem dX10_goWalk_54 : decode cX10_goWalk 54 = .ok (.idiv, 1) := dz_at dqX10_goWalk_p112 5 rfl
theorem dX10_goWalk_55 : decode cX10_goWalk 55 = .ok (.istore 5, 2) := dz_at dqX10_goWalk_p112 6 rfl
theorem dX10_goWalk_57 : decode cX10_goWalk 57 = .ok (.aload_n 0, 1) := dz_at dqX10_goWalk_p112 7 rfl
theorem dX10_goWalk_58 : decode cX10_goWalk 58 = .ok (.getfield 50, 3) := dz_at dqX10_goWalk_p112 8 rfl
theorem dX10_goWalk_61 : decode cX10_goWalk 61 = .ok (.iload_n 2, 1) := dz_at dqX10_goWalk_p112 9 rfl
theorem dX10_goWalk_62 : decode cX10_goWalk 62 = .ok (.iload 4, 2) := dz_at dqX10_goWalk_p112 10 rfl
theorem dX10_goWalk_64 : decode cX10_goWalk 64 = .ok (.iadd, 1) := dz_at dqX10_goWalk_p112 11 rfl
theorem dX10_goWalk_65 : decode cX10_goWalk 65 = .ok (.dup2, 1) := dz_at dqX10_goWalk_p112 12 rfl
theorem dX10_goWalk_66 : decode cX10_goWalk 66 = .ok (.iaload, 1) := dz_at dqX10_goWalk_p112 13 rfl
set_option maxRecDepth 20000 in
theorem dqX10_goWalk_p113 : dz_rn 67 (cX10_goWalk.data.toList.drop 67) [(1, 0), (0, 11), (0, 22), (0, 3), (1, 0), (0, 11), (0, 21), (5, 0), (4, 0), (0, 3), (0, 12)] = some [(67, .iload 5, 2), (69, .iadd, 1), (70, .iastore, 1), (71, .iload_n 3, 1), (72, .iload 5, 2), (74, .iadd, 1), (75, .istore_n 3, 1), (76, .iinc 4 1, 3), (79, .goto (-71), 3), (82, .iload_n 3, 1), (83, .ireturn, 1)] := by decide +kernel
theorem dX10_goWalk_67 : decode cX10_goWalk 67 = .ok (.iload 5, 2) := dz_at dqX10_goWalk_p113 0 rfl
theorem dX10_goWalk_69 : decode cX10_goWalk 69 = .ok (.iadd, 1) := dz_at dqX10_goWalk_p113 1 rfl
theorem dX10_goWalk_70 : decode cX10_goWalk 70 = .ok (.iastore, 1) := dz_at dqX10_goWalk_p113 2 rfl
theorem dX10_goWalk_71 : decode cX10_goWalk 71 = .ok (.iload_n 3, 1) := dz_at dqX10_goWalk_p113 3 rfl
theorem dX10_goWalk_72 : decode cX10_goWalk 72 = .ok (.iload 5, 2) := dz_at dqX10_goWalk_p113 4 rfl
theorem dX10_goWalk_74 : decode cX10_goWalk 74 = .ok (.iadd, 1) := dz_at dqX10_goWalk_p113 5 rfl
theorem dX10_goWalk_75 : decode cX10_goWalk 75 = .ok (.istore_n 3, 1) := dz_at dqX10_goWalk_p113 6 rfl
theorem dX10_goWalk_76 : decode cX10_goWalk 76 = .ok (.iinc 4 1, 3) := dz_at dqX10_goWalk_p113 7 rfl
theorem dX10_goWalk_79 : decode cX10_goWalk 79 = .ok (.goto (-71), 3) := dz_at dqX10_goWalk_p113 8 rfl
theorem dX10_goWalk_82 : decode cX10_goWalk 82 = .ok (.iload_n 3, 1) := dz_at dqX10_goWalk_p113 9 rfl
theorem dX10_goWalk_83 : decode cX10_goWalk 83 = .ok (.ireturn, 1) := dz_at dqX10_goWalk_p113 10 rfl
set_option maxRecDepth 20000 in
theorem ggX10_walk_X10_isRoom : GoodIn wsX10_walk wsX10_isRoom := goodIn_r _ [8, 9, 10, 7, 11] rfl (by decide +kernel)
set_option maxRecDepth 20000 in
theorem gX10_walk_X10_isRoom : GoodIn wsX10_walk (va_wsS RX10 100 yX10_isRoom wsX10_isRoom) := goodIn_app (goodIn_of _ (by decide +kernel)) ggX10_walk_X10_isRoom
set_option maxRecDepth 20000 in
theorem ggX10_walk_X10_lookAhead : GoodIn wsX10_walk wsX10_lookAhead := goodIn_r _ [15, 2, 16, 1, 17, 18, 19, 25, 26, 27, 28, 29, 30, 31, 32, 33, 34, 35, 36, 37, 38, 39, 40, 41, 42, 43, 44, 45, 46, 47, 48, 49, 50, 51, 52, 53, 54, 55, 56, 57, 58, 59, 60, 61, 62, 63] rfl (by decide +kernel)
set_option maxRecDepth 20000 in
theorem gX10_walk_X10_lookAhead : GoodIn wsX10_walk (wsV RX10 131 RX10 yX10_lookAhead wsX10_lookAhead) := goodIn_app (goodIn_of _ (by decide +kernel)) ggX10_walk_X10_lookAhead
set_option maxRecDepth 20000 in
theorem ggX10_walk_X10_goWalk : GoodIn wsX10_walk wsX10_goWalk := goodIn_r _ [23, 16, 2, 24, 25, 26, 27, 28, 29, 30, 31, 32, 33, 34, 35, 36, 37, 38, 39, 40, 41, 42, 43, 44, 45, 46, 47, 48, 49, 50, 51, 52, 53, 54, 55, 56, 57, 58, 59, 60, 61, 62, 63] rfl (by decide +kernel)
set_option maxRecDepth 20000 in
theorem gX10_walk_X10_goWalk : GoodIn wsX10_walk (wsV RX10 138 RX10 yX10_goWalk wsX10_goWalk) := goodIn_app (goodIn_of _ (by decide +kernel)) ggX10_walk_X10_goWalk
set_option maxRecDepth 20000 in
theorem dqX10_walk_p110 : dz_rn 0 (cX10_walk.data.toList.drop 0) [(0, 1), (3, 2), (4, 8), (2, 0), (0, 12), (0, 4), (3, 1), (0, 4), (0, 1), (0, 8), (3, 1), (0, 20), (2, 0), (0, 1)] = some [(0, .iload_n 1, 1), (1, .invokestatic 100, 3), (4, .ifCond .ne 6, 3), (7, .bipush (-2), 2), (9, .ireturn, 1), (10, .aload_n 0, 1), (11, .invokevirtual 131, 3), (14, .aload_n 0, 1), (15, .iload_n 1, 1), (16, .iconst 0, 1), (17, .invokevirtual 138, 3), (20, .istore_n 2, 1), (21, .bipush 6, 2), (23, .iload_n 1, 1)] := by decide +kernel
theorem dX10_walk_0 : decode cX10_walk 0 = .ok (.iload_n 1, 1) := dz_at dqX10_walk_p110 0 rfl
theorem dX10_walk_1 : decode cX10_walk 1 = .ok (.invokestatic 100, 3) := dz_at dqX10_walk_p110 1 rfl
theorem dX10_walk_4 : decode cX10_walk 4 = .ok (.ifCond .ne 6, 3) := dz_at dqX10_walk_p110 2 rfl
theorem dX10_walk_7 : decode cX10_walk 7 = .ok (.bipush (-2), 2) := dz_at dqX10_walk_p110 3 rfl
theorem dX10_walk_9 : decode cX10_walk 9 = .ok (.ireturn, 1) := dz_at dqX10_walk_p110 4 rfl
theorem dX10_walk_10 : decode cX10_walk 10 = .ok (.aload_n 0, 1) := dz_at dqX10_walk_p110 5 rfl
theorem dX10_walk_11 : decode cX10_walk 11 = .ok (.invokevirtual 131, 3) := dz_at dqX10_walk_p110 6 rfl
theorem dX10_walk_14 : decode cX10_walk 14 = .ok (.aload_n 0, 1) := dz_at dqX10_walk_p110 7 rfl
theorem dX10_walk_15 : decode cX10_walk 15 = .ok (.iload_n 1, 1) := dz_at dqX10_walk_p110 8 rfl
theorem dX10_walk_16 : decode cX10_walk 16 = .ok (.iconst 0, 1) := dz_at dqX10_walk_p110 9 rfl
theorem dX10_walk_17 : decode cX10_walk 17 = .ok (.invokevirtual 138, 3) := dz_at dqX10_walk_p110 10 rfl
theorem dX10_walk_20 : decode cX10_walk 20 = .ok (.istore_n 2, 1) := dz_at dqX10_walk_p110 11 rfl
theorem dX10_walk_21 : decode cX10_walk 21 = .ok (.bipush 6, 2) := dz_at dqX10_walk_p110 12 rfl
theorem dX10_walk_23 : decode cX10_walk 23 = .ok (.iload_n 1, 1) := dz_at dqX10_walk_p110 13 rfl
set_option maxRecDepth 20000 in
theorem dqX10_walk_p111 : dz_rn 24 (cX10_walk.data.toList.drop 24) [(0, 23), (0, 21), (0, 3), (2, 0), (0, 1), (0, 23), (2, 0), (0, 11), (4, 4), (0, 4), (3, 0), (0, 3), (0, 4), (3, 0)] = some [(24, .imul, 1), (25, .istore_n 3, 1), (26, .iload_n 3, 1), (27, .bipush 6, 2), (29, .iload_n 1, 1), (30, .imul, 1), (31, .bipush 6, 2), (33, .iadd, 1), (34, .if_icmp .ge 21, 3), (37, .aload_n 0, 1), (38, .getfield 35, 3), (41, .iload_n 3, 1), (42, .aload_n 0, 1), (43, .getfield 50, 3)] := by decide +kernel
theorem dX10_walk_24 : decode cX10_walk 24 = .ok (.imul, 1) := dz_at dqX10_walk_p111 0 rfl
theorem dX10_walk_25 : decode cX10_walk 25 = .ok (.istore_n 3, 1) := dz_at dqX10_walk_p111 1 rfl
theorem dX10_walk_26 : decode cX10_walk 26 = .ok (.iload_n 3, 1) := dz_at dqX10_walk_p111 2 rfl
theorem dX10_walk_27 : decode cX10_walk 27 = .ok (.bipush 6, 2) := dz_at dqX10_walk_p111 3 rfl
theorem dX10_walk_29 : decode cX10_walk 29 = .ok (.iload_n 1, 1) := dz_at dqX10_walk_p111 4 rfl
theorem dX10_walk_30 : decode cX10_walk 30 = .ok (.imul, 1) := dz_at dqX10_walk_p111 5 rfl
theorem dX10_walk_31 : decode cX10_walk 31 = .ok (.bipush 6, 2) := dz_at dqX10_walk_p111 6 rfl
theorem dX10_walk_33 : decode cX10_walk 33 = .ok (.iadd, 1) := dz_at dqX10_walk_p111 7 rfl
theorem dX10_walk_34 : decode cX10_walk 34 = .ok (.if_icmp .ge 21, 3) := dz_at dqX10_walk_p111 8 rfl
theorem dX10_walk_37 : decode cX10_walk 37 = .ok (.aload_n 0, 1) := dz_at dqX10_walk_p111 9 rfl
theorem dX10_walk_38 : decode cX10_walk 38 = .ok (.getfield 35, 3) := dz_at dqX10_walk_p111 10 rfl
theorem dX10_walk_41 : decode cX10_walk 41 = .ok (.iload_n 3, 1) := dz_at dqX10_walk_p111 11 rfl
theorem dX10_walk_42 : decode cX10_walk 42 = .ok (.aload_n 0, 1) := dz_at dqX10_walk_p111 12 rfl
theorem dX10_walk_43 : decode cX10_walk 43 = .ok (.getfield 50, 3) := dz_at dqX10_walk_p111 13 rfl
set_option maxRecDepth 20000 in
theorem dqX10_walk_p112 : dz_rn 46 (cX10_walk.data.toList.drop 46) [(0, 3), (0, 10), (0, 22), (5, 0), (4, 0), (0, 4), (3, 0), (0, 1), (0, 4), (3, 0), (0, 22), (0, 2), (0, 12)] = some [(46, .iload_n 3, 1), (47, .iaload, 1), (48, .iastore, 1), (49, .iinc 3 1, 3), (52, .goto (-26), 3), (55, .aload_n 0, 1), (56, .getfield 47, 3), (59, .iload_n 1, 1), (60, .aload_n 0, 1), (61, .getfield 125, 3), (64, .iastore, 1), (65, .iload_n 2, 1), (66, .ireturn, 1)] := by decide +kernel
theorem dX10_walk_46 : decode cX10_walk 46 = .ok (.iload_n 3, 1) := dz_at dqX10_walk_p112 0 rfl
theorem dX10_walk_47 : decode cX10_walk 47 = .ok (.iaload, 1) := dz_at dqX10_walk_p112 1 rfl
theorem dX10_walk_48 : decode cX10_walk 48 = .ok (.iastore, 1) := dz_at dqX10_walk_p112 2 rfl
theorem dX10_walk_49 : decode cX10_walk 49 = .ok (.iinc 3 1, 3) := dz_at dqX10_walk_p112 3 rfl
theorem dX10_walk_52 : decode cX10_walk 52 = .ok (.goto (-26), 3) := dz_at dqX10_walk_p112 4 rfl
theorem dX10_walk_55 : decode cX10_walk 55 = .ok (.aload_n 0, 1) := dz_at dqX10_walk_p112 5 rfl
theorem dX10_walk_56 : decode cX10_walk 56 = .ok (.getfield 47, 3) := dz_at dqX10_walk_p112 6 rfl
theorem dX10_walk_59 : decode cX10_walk 59 = .ok (.iload_n 1, 1) := dz_at dqX10_walk_p112 7 rfl
theorem dX10_walk_60 : decode cX10_walk 60 = .ok (.aload_n 0, 1) := dz_at dqX10_walk_p112 8 rfl
theorem dX10_walk_61 : decode cX10_walk 61 = .ok (.getfield 125, 3) := dz_at dqX10_walk_p112 9 rfl
theorem dX10_walk_64 : decode cX10_walk 64 = .ok (.iastore, 1) := dz_at dqX10_walk_p112 10 rfl
theorem dX10_walk_65 : decode cX10_walk 65 = .ok (.iload_n 2, 1) := dz_at dqX10_walk_p112 11 rfl
theorem dX10_walk_66 : decode cX10_walk 66 = .ok (.ireturn, 1) := dz_at dqX10_walk_p112 12 rfl
set_option maxRecDepth 20000 in
theorem ggX10_write_X10_in : GoodIn wsX10_write wsX10_in := goodIn_r _ [7] rfl (by decide +kernel)
set_option maxRecDepth 20000 in
theorem gX10_write_X10_in : GoodIn wsX10_write (va_wsS RX10 93 yX10_in wsX10_in) := goodIn_app (goodIn_of _ (by decide +kernel)) ggX10_write_X10_in
set_option maxRecDepth 20000 in
theorem dqX10_write_p110 : dz_rn 0 (cX10_write.data.toList.drop 0) [(0, 3), (0, 9), (2, 0), (3, 2), (4, 8), (2, 0), (0, 12), (0, 4), (3, 0), (0, 3), (0, 11), (4, 13), (4, 6), (2, 0)] = some [(0, .iload_n 3, 1), (1, .iconst 1, 1), (2, .bipush 8, 2), (4, .invokestatic 93, 3), (7, .ifCond .ne 6, 3), (10, .bipush (-3), 2), (12, .ireturn, 1), (13, .aload_n 0, 1), (14, .getfield 141, 3), (17, .iload_n 3, 1), (18, .iadd, 1), (19, .sipush 160, 3), (22, .if_icmp .le 6, 3), (25, .bipush (-5), 2)] := by decide +kernel
theorem dX10_write_0 : decode cX10_write 0 = .ok (.iload_n 3, 1) := dz_at dqX10_write_p110 0 rfl
theorem dX10_write_1 : decode cX10_write 1 = .ok (.iconst 1, 1) := dz_at dqX10_write_p110 1 rfl
theorem dX10_write_2 : decode cX10_write 2 = .ok (.bipush 8, 2) := dz_at dqX10_write_p110 2 rfl
theorem dX10_write_4 : decode cX10_write 4 = .ok (.invokestatic 93, 3) := dz_at dqX10_write_p110 3 rfl
theorem dX10_write_7 : decode cX10_write 7 = .ok (.ifCond .ne 6, 3) := dz_at dqX10_write_p110 4 rfl
theorem dX10_write_10 : decode cX10_write 10 = .ok (.bipush (-3), 2) := dz_at dqX10_write_p110 5 rfl
theorem dX10_write_12 : decode cX10_write 12 = .ok (.ireturn, 1) := dz_at dqX10_write_p110 6 rfl
theorem dX10_write_13 : decode cX10_write 13 = .ok (.aload_n 0, 1) := dz_at dqX10_write_p110 7 rfl
theorem dX10_write_14 : decode cX10_write 14 = .ok (.getfield 141, 3) := dz_at dqX10_write_p110 8 rfl
theorem dX10_write_17 : decode cX10_write 17 = .ok (.iload_n 3, 1) := dz_at dqX10_write_p110 9 rfl
theorem dX10_write_18 : decode cX10_write 18 = .ok (.iadd, 1) := dz_at dqX10_write_p110 10 rfl
theorem dX10_write_19 : decode cX10_write 19 = .ok (.sipush 160, 3) := dz_at dqX10_write_p110 11 rfl
theorem dX10_write_22 : decode cX10_write 22 = .ok (.if_icmp .le 6, 3) := dz_at dqX10_write_p110 12 rfl
theorem dX10_write_25 : decode cX10_write 25 = .ok (.bipush (-5), 2) := dz_at dqX10_write_p110 13 rfl
set_option maxRecDepth 20000 in
theorem dqX10_write_p111 : dz_rn 27 (cX10_write.data.toList.drop 27) [(0, 12), (0, 8), (1, 1), (1, 0), (0, 3), (4, 4), (0, 4), (3, 0), (0, 4), (3, 0), (1, 0), (0, 11), (0, 35), (2, 0)] = some [(27, .ireturn, 1), (28, .iconst 0, 1), (29, .istore 4, 2), (31, .iload 4, 2), (33, .iload_n 3, 1), (34, .if_icmp .ge 33, 3), (37, .aload_n 0, 1), (38, .getfield 62, 3), (41, .aload_n 0, 1), (42, .getfield 141, 3), (45, .iload 4, 2), (47, .iadd, 1), (48, .lload_n 1, 1), (49, .bipush 8, 2)] := by decide +kernel
theorem dX10_write_27 : decode cX10_write 27 = .ok (.ireturn, 1) := dz_at dqX10_write_p111 0 rfl
theorem dX10_write_28 : decode cX10_write 28 = .ok (.iconst 0, 1) := dz_at dqX10_write_p111 1 rfl
theorem dX10_write_29 : decode cX10_write 29 = .ok (.istore 4, 2) := dz_at dqX10_write_p111 2 rfl
theorem dX10_write_31 : decode cX10_write 31 = .ok (.iload 4, 2) := dz_at dqX10_write_p111 3 rfl
theorem dX10_write_33 : decode cX10_write 33 = .ok (.iload_n 3, 1) := dz_at dqX10_write_p111 4 rfl
theorem dX10_write_34 : decode cX10_write 34 = .ok (.if_icmp .ge 33, 3) := dz_at dqX10_write_p111 5 rfl
theorem dX10_write_37 : decode cX10_write 37 = .ok (.aload_n 0, 1) := dz_at dqX10_write_p111 6 rfl
theorem dX10_write_38 : decode cX10_write 38 = .ok (.getfield 62, 3) := dz_at dqX10_write_p111 7 rfl
theorem dX10_write_41 : decode cX10_write 41 = .ok (.aload_n 0, 1) := dz_at dqX10_write_p111 8 rfl
theorem dX10_write_42 : decode cX10_write 42 = .ok (.getfield 141, 3) := dz_at dqX10_write_p111 9 rfl
theorem dX10_write_45 : decode cX10_write 45 = .ok (.iload 4, 2) := dz_at dqX10_write_p111 10 rfl
theorem dX10_write_47 : decode cX10_write 47 = .ok (.iadd, 1) := dz_at dqX10_write_p111 11 rfl
theorem dX10_write_48 : decode cX10_write 48 = .ok (.lload_n 1, 1) := dz_at dqX10_write_p111 12 rfl
theorem dX10_write_49 : decode cX10_write 49 = .ok (.bipush 8, 2) := dz_at dqX10_write_p111 13 rfl
set_option maxRecDepth 20000 in
theorem dqX10_write_p112 : dz_rn 51 (cX10_write.data.toList.drop 51) [(1, 0), (0, 23), (0, 46), (3, 4), (0, 38)] = some [(51, .iload 4, 2), (53, .imul, 1), (54, .lshr, 1), (55, .ldc2_w 144, 3), (58, .land, 1)] := by decide +kernel
theorem dX10_write_51 : decode cX10_write 51 = .ok (.iload 4, 2) := dz_at dqX10_write_p112 0 rfl
theorem dX10_write_53 : decode cX10_write 53 = .ok (.imul, 1) := dz_at dqX10_write_p112 1 rfl
theorem dX10_write_54 : decode cX10_write 54 = .ok (.lshr, 1) := dz_at dqX10_write_p112 2 rfl
theorem dX10_write_55 : decode cX10_write 55 = .ok (.ldc2_w 144, 3) := dz_at dqX10_write_p112 3 rfl
theorem dX10_write_58 : decode cX10_write 58 = .ok (.land, 1) := dz_at dqX10_write_p112 4 rfl
theorem dX10_write_59 : decode cX10_write 59 = .ok (.l2i, 1) := by decide +kernel
set_option maxRecDepth 20000 in
theorem dqX10_write_p113 : dz_rn 60 (cX10_write.data.toList.drop 60) [(0, 22), (5, 0), (4, 0), (0, 4), (0, 28), (3, 0), (0, 3), (0, 11), (3, 3), (0, 4), (3, 0), (0, 12)] = some [(60, .iastore, 1), (61, .iinc 4 1, 3), (64, .goto (-33), 3), (67, .aload_n 0, 1), (68, .dup, 1), (69, .getfield 141, 3), (72, .iload_n 3, 1), (73, .iadd, 1), (74, .putfield 141, 3), (77, .aload_n 0, 1), (78, .getfield 141, 3), (81, .ireturn, 1)] := by decide +kernel
theorem dX10_write_60 : decode cX10_write 60 = .ok (.iastore, 1) := dz_at dqX10_write_p113 0 rfl
theorem dX10_write_61 : decode cX10_write 61 = .ok (.iinc 4 1, 3) := dz_at dqX10_write_p113 1 rfl
theorem dX10_write_64 : decode cX10_write 64 = .ok (.goto (-33), 3) := dz_at dqX10_write_p113 2 rfl
theorem dX10_write_67 : decode cX10_write 67 = .ok (.aload_n 0, 1) := dz_at dqX10_write_p113 3 rfl
theorem dX10_write_68 : decode cX10_write 68 = .ok (.dup, 1) := dz_at dqX10_write_p113 4 rfl
theorem dX10_write_69 : decode cX10_write 69 = .ok (.getfield 141, 3) := dz_at dqX10_write_p113 5 rfl
theorem dX10_write_72 : decode cX10_write 72 = .ok (.iload_n 3, 1) := dz_at dqX10_write_p113 6 rfl
theorem dX10_write_73 : decode cX10_write 73 = .ok (.iadd, 1) := dz_at dqX10_write_p113 7 rfl
theorem dX10_write_74 : decode cX10_write 74 = .ok (.putfield 141, 3) := dz_at dqX10_write_p113 8 rfl
theorem dX10_write_77 : decode cX10_write 77 = .ok (.aload_n 0, 1) := dz_at dqX10_write_p113 9 rfl
theorem dX10_write_78 : decode cX10_write 78 = .ok (.getfield 141, 3) := dz_at dqX10_write_p113 10 rfl
theorem dX10_write_81 : decode cX10_write 81 = .ok (.ireturn, 1) := dz_at dqX10_write_p113 11 rfl
set_option maxRecDepth 20000 in
theorem dqX10_erase_p110 : dz_rn 0 (cX10_erase.data.toList.drop 0) [(0, 4), (3, 0), (0, 19), (0, 4), (0, 8), (3, 3), (0, 1), (0, 12)] = some [(0, .aload_n 0, 1), (1, .getfield 141, 3), (4, .istore_n 1, 1), (5, .aload_n 0, 1), (6, .iconst 0, 1), (7, .putfield 141, 3), (10, .iload_n 1, 1), (11, .ireturn, 1)] := by decide +kernel
theorem dX10_erase_0 : decode cX10_erase 0 = .ok (.aload_n 0, 1) := dz_at dqX10_erase_p110 0 rfl
theorem dX10_erase_1 : decode cX10_erase 1 = .ok (.getfield 141, 3) := dz_at dqX10_erase_p110 1 rfl
theorem dX10_erase_4 : decode cX10_erase 4 = .ok (.istore_n 1, 1) := dz_at dqX10_erase_p110 2 rfl
theorem dX10_erase_5 : decode cX10_erase 5 = .ok (.aload_n 0, 1) := dz_at dqX10_erase_p110 3 rfl
theorem dX10_erase_6 : decode cX10_erase 6 = .ok (.iconst 0, 1) := dz_at dqX10_erase_p110 4 rfl
theorem dX10_erase_7 : decode cX10_erase 7 = .ok (.putfield 141, 3) := dz_at dqX10_erase_p110 5 rfl
theorem dX10_erase_10 : decode cX10_erase 10 = .ok (.iload_n 1, 1) := dz_at dqX10_erase_p110 6 rfl
theorem dX10_erase_11 : decode cX10_erase 11 = .ok (.ireturn, 1) := dz_at dqX10_erase_p110 7 rfl
end
section
set_option maxRecDepth 20000 in
theorem ggX10_nextToken_X10_in : GoodIn wsX10_nextToken wsX10_in := goodIn_r _ [17] rfl (by decide +kernel)
set_option maxRecDepth 20000 in
theorem gX10_nextToken_X10_in : GoodIn wsX10_nextToken (va_wsS RX10 93 yX10_in wsX10_in) := goodIn_app (goodIn_of _ (by decide +kernel)) ggX10_nextToken_X10_in
set_option maxRecDepth 20000 in
theorem dqX10_nextToken_p120 : dz_rn 0 (cX10_nextToken.data.toList.drop 0) [(0, 4), (3, 0), (0, 4), (3, 0), (4, 4), (0, 4), (3, 0), (0, 4), (3, 0), (0, 10), (2, 0), (4, 2), (0, 4), (0, 28)] = some [(0, .aload_n 0, 1), (1, .getfield 146, 3), (4, .aload_n 0, 1), (5, .getfield 141, 3), (8, .if_icmp .ge 30, 3), (11, .aload_n 0, 1), (12, .getfield 62, 3), (15, .aload_n 0, 1), (16, .getfield 146, 3), (19, .iaload, 1), (20, .bipush 32, 2), (22, .if_icmp .ne 16, 3), (25, .aload_n 0, 1), (26, .dup, 1)] := by decide +kernel
theorem dX10_nextToken_0 : decode cX10_nextToken 0 = .ok (.aload_n 0, 1) := dz_at dqX10_nextToken_p120 0 rfl
theorem dX10_nextToken_1 : decode cX10_nextToken 1 = .ok (.getfield 146, 3) := dz_at dqX10_nextToken_p120 1 rfl
theorem dX10_nextToken_4 : decode cX10_nextToken 4 = .ok (.aload_n 0, 1) := dz_at dqX10_nextToken_p120 2 rfl
theorem dX10_nextToken_5 : decode cX10_nextToken 5 = .ok (.getfield 141, 3) := dz_at dqX10_nextToken_p120 3 rfl
theorem dX10_nextToken_8 : decode cX10_nextToken 8 = .ok (.if_icmp .ge 30, 3) := dz_at dqX10_nextToken_p120 4 rfl
theorem dX10_nextToken_11 : decode cX10_nextToken 11 = .ok (.aload_n 0, 1) := dz_at dqX10_nextToken_p120 5 rfl
theorem dX10_nextToken_12 : decode cX10_nextToken 12 = .ok (.getfield 62, 3) := dz_at dqX10_nextToken_p120 6 rfl
theorem dX10_nextToken_15 : decode cX10_nextToken 15 = .ok (.aload_n 0, 1) := dz_at dqX10_nextToken_p120 7 rfl
theorem dX10_nextToken_16 : decode cX10_nextToken 16 = .ok (.getfield 146, 3) := dz_at dqX10_nextToken_p120 8 rfl
theorem dX10_nextToken_19 : decode cX10_nextToken 19 = .ok (.iaload, 1) := dz_at dqX10_nextToken_p120 9 rfl
theorem dX10_nextToken_20 : decode cX10_nextToken 20 = .ok (.bipush 32, 2) := dz_at dqX10_nextToken_p120 10 rfl
theorem dX10_nextToken_22 : decode cX10_nextToken 22 = .ok (.if_icmp .ne 16, 3) := dz_at dqX10_nextToken_p120 11 rfl
theorem dX10_nextToken_25 : decode cX10_nextToken 25 = .ok (.aload_n 0, 1) := dz_at dqX10_nextToken_p120 12 rfl
theorem dX10_nextToken_26 : decode cX10_nextToken 26 = .ok (.dup, 1) := dz_at dqX10_nextToken_p120 13 rfl
set_option maxRecDepth 20000 in
theorem dqX10_nextToken_p121 : dz_rn 27 (cX10_nextToken.data.toList.drop 27) [(3, 0), (0, 9), (0, 11), (3, 3), (4, 0), (0, 4), (0, 4), (3, 0), (3, 3), (0, 4), (0, 8), (3, 3), (0, 4), (0, 8)] = some [(27, .getfield 146, 3), (30, .iconst 1, 1), (31, .iadd, 1), (32, .putfield 146, 3), (35, .goto (-35), 3), (38, .aload_n 0, 1), (39, .aload_n 0, 1), (40, .getfield 146, 3), (43, .putfield 149, 3), (46, .aload_n 0, 1), (47, .iconst 0, 1), (48, .putfield 152, 3), (51, .aload_n 0, 1), (52, .iconst 0, 1)] := by decide +kernel
theorem dX10_nextToken_27 : decode cX10_nextToken 27 = .ok (.getfield 146, 3) := dz_at dqX10_nextToken_p121 0 rfl
theorem dX10_nextToken_30 : decode cX10_nextToken 30 = .ok (.iconst 1, 1) := dz_at dqX10_nextToken_p121 1 rfl
theorem dX10_nextToken_31 : decode cX10_nextToken 31 = .ok (.iadd, 1) := dz_at dqX10_nextToken_p121 2 rfl
theorem dX10_nextToken_32 : decode cX10_nextToken 32 = .ok (.putfield 146, 3) := dz_at dqX10_nextToken_p121 3 rfl
theorem dX10_nextToken_35 : decode cX10_nextToken 35 = .ok (.goto (-35), 3) := dz_at dqX10_nextToken_p121 4 rfl
theorem dX10_nextToken_38 : decode cX10_nextToken 38 = .ok (.aload_n 0, 1) := dz_at dqX10_nextToken_p121 5 rfl
theorem dX10_nextToken_39 : decode cX10_nextToken 39 = .ok (.aload_n 0, 1) := dz_at dqX10_nextToken_p121 6 rfl
theorem dX10_nextToken_40 : decode cX10_nextToken 40 = .ok (.getfield 146, 3) := dz_at dqX10_nextToken_p121 7 rfl
theorem dX10_nextToken_43 : decode cX10_nextToken 43 = .ok (.putfield 149, 3) := dz_at dqX10_nextToken_p121 8 rfl
theorem dX10_nextToken_46 : decode cX10_nextToken 46 = .ok (.aload_n 0, 1) := dz_at dqX10_nextToken_p121 9 rfl
theorem dX10_nextToken_47 : decode cX10_nextToken 47 = .ok (.iconst 0, 1) := dz_at dqX10_nextToken_p121 10 rfl
theorem dX10_nextToken_48 : decode cX10_nextToken 48 = .ok (.putfield 152, 3) := dz_at dqX10_nextToken_p121 11 rfl
theorem dX10_nextToken_51 : decode cX10_nextToken 51 = .ok (.aload_n 0, 1) := dz_at dqX10_nextToken_p121 12 rfl
theorem dX10_nextToken_52 : decode cX10_nextToken 52 = .ok (.iconst 0, 1) := dz_at dqX10_nextToken_p121 13 rfl
set_option maxRecDepth 20000 in
theorem dqX10_nextToken_p122 : dz_rn 53 (cX10_nextToken.data.toList.drop 53) [(3, 3), (0, 4), (3, 0), (0, 4), (3, 0), (4, 2), (0, 4), (3, 4), (3, 3), (4, 0), (0, 4), (3, 0), (0, 4), (3, 0)] = some [(53, .putfield 155, 3), (56, .aload_n 0, 1), (57, .getfield 146, 3), (60, .aload_n 0, 1), (61, .getfield 141, 3), (64, .if_icmp .ne 13, 3), (67, .aload_n 0, 1), (68, .ldc2_w 158, 3), (71, .putfield 160, 3), (74, .goto 320, 3), (77, .aload_n 0, 1), (78, .getfield 62, 3), (81, .aload_n 0, 1), (82, .getfield 146, 3)] := by decide +kernel
theorem dX10_nextToken_53 : decode cX10_nextToken 53 = .ok (.putfield 155, 3) := dz_at dqX10_nextToken_p122 0 rfl
theorem dX10_nextToken_56 : decode cX10_nextToken 56 = .ok (.aload_n 0, 1) := dz_at dqX10_nextToken_p122 1 rfl
theorem dX10_nextToken_57 : decode cX10_nextToken 57 = .ok (.getfield 146, 3) := dz_at dqX10_nextToken_p122 2 rfl
theorem dX10_nextToken_60 : decode cX10_nextToken 60 = .ok (.aload_n 0, 1) := dz_at dqX10_nextToken_p122 3 rfl
theorem dX10_nextToken_61 : decode cX10_nextToken 61 = .ok (.getfield 141, 3) := dz_at dqX10_nextToken_p122 4 rfl
theorem dX10_nextToken_64 : decode cX10_nextToken 64 = .ok (.if_icmp .ne 13, 3) := dz_at dqX10_nextToken_p122 5 rfl
theorem dX10_nextToken_67 : decode cX10_nextToken 67 = .ok (.aload_n 0, 1) := dz_at dqX10_nextToken_p122 6 rfl
theorem dX10_nextToken_68 : decode cX10_nextToken 68 = .ok (.ldc2_w 158, 3) := dz_at dqX10_nextToken_p122 7 rfl
theorem dX10_nextToken_71 : decode cX10_nextToken 71 = .ok (.putfield 160, 3) := dz_at dqX10_nextToken_p122 8 rfl
theorem dX10_nextToken_74 : decode cX10_nextToken 74 = .ok (.goto 320, 3) := dz_at dqX10_nextToken_p122 9 rfl
theorem dX10_nextToken_77 : decode cX10_nextToken 77 = .ok (.aload_n 0, 1) := dz_at dqX10_nextToken_p122 10 rfl
theorem dX10_nextToken_78 : decode cX10_nextToken 78 = .ok (.getfield 62, 3) := dz_at dqX10_nextToken_p122 11 rfl
theorem dX10_nextToken_81 : decode cX10_nextToken 81 = .ok (.aload_n 0, 1) := dz_at dqX10_nextToken_p122 12 rfl
theorem dX10_nextToken_82 : decode cX10_nextToken 82 = .ok (.getfield 146, 3) := dz_at dqX10_nextToken_p122 13 rfl
set_option maxRecDepth 20000 in
theorem dqX10_nextToken_p123 : dz_rn 85 (cX10_nextToken.data.toList.drop 85) [(0, 10), (2, 0), (2, 0), (3, 2), (4, 7), (0, 4)] = some [(85, .iaload, 1), (86, .bipush 97, 2), (88, .bipush 122, 2), (90, .invokestatic 93, 3), (93, .ifCond .eq 129, 3), (96, .aload_n 0, 1)] := by decide +kernel
theorem dX10_nextToken_85 : decode cX10_nextToken 85 = .ok (.iaload, 1) := dz_at dqX10_nextToken_p123 0 rfl
theorem dX10_nextToken_86 : decode cX10_nextToken 86 = .ok (.bipush 97, 2) := dz_at dqX10_nextToken_p123 1 rfl
theorem dX10_nextToken_88 : decode cX10_nextToken 88 = .ok (.bipush 122, 2) := dz_at dqX10_nextToken_p123 2 rfl
theorem dX10_nextToken_90 : decode cX10_nextToken 90 = .ok (.invokestatic 93, 3) := dz_at dqX10_nextToken_p123 3 rfl
theorem dX10_nextToken_93 : decode cX10_nextToken 93 = .ok (.ifCond .eq 129, 3) := dz_at dqX10_nextToken_p123 4 rfl
theorem dX10_nextToken_96 : decode cX10_nextToken 96 = .ok (.aload_n 0, 1) := dz_at dqX10_nextToken_p123 5 rfl
theorem dX10_nextToken_97 : decode cX10_nextToken 97 = .ok (.lconst 0, 1) := by decide +kernel
set_option maxRecDepth 20000 in
theorem dqX10_nextToken_p124 : dz_rn 98 (cX10_nextToken.data.toList.drop 98) [(3, 3), (0, 4), (3, 0), (0, 4), (3, 0), (4, 4), (0, 4), (3, 0), (0, 4), (3, 0), (0, 10), (2, 0), (2, 0), (3, 2)] = some [(98, .putfield 160, 3), (101, .aload_n 0, 1), (102, .getfield 146, 3), (105, .aload_n 0, 1), (106, .getfield 141, 3), (109, .if_icmp .ge 82, 3), (112, .aload_n 0, 1), (113, .getfield 62, 3), (116, .aload_n 0, 1), (117, .getfield 146, 3), (120, .iaload, 1), (121, .bipush 97, 2), (123, .bipush 122, 2), (125, .invokestatic 93, 3)] := by decide +kernel
theorem dX10_nextToken_98 : decode cX10_nextToken 98 = .ok (.putfield 160, 3) := dz_at dqX10_nextToken_p124 0 rfl
theorem dX10_nextToken_101 : decode cX10_nextToken 101 = .ok (.aload_n 0, 1) := dz_at dqX10_nextToken_p124 1 rfl
theorem dX10_nextToken_102 : decode cX10_nextToken 102 = .ok (.getfield 146, 3) := dz_at dqX10_nextToken_p124 2 rfl
theorem dX10_nextToken_105 : decode cX10_nextToken 105 = .ok (.aload_n 0, 1) := dz_at dqX10_nextToken_p124 3 rfl
theorem dX10_nextToken_106 : decode cX10_nextToken 106 = .ok (.getfield 141, 3) := dz_at dqX10_nextToken_p124 4 rfl
theorem dX10_nextToken_109 : decode cX10_nextToken 109 = .ok (.if_icmp .ge 82, 3) := dz_at dqX10_nextToken_p124 5 rfl
theorem dX10_nextToken_112 : decode cX10_nextToken 112 = .ok (.aload_n 0, 1) := dz_at dqX10_nextToken_p124 6 rfl
theorem dX10_nextToken_113 : decode cX10_nextToken 113 = .ok (.getfield 62, 3) := dz_at dqX10_nextToken_p124 7 rfl
theorem dX10_nextToken_116 : decode cX10_nextToken 116 = .ok (.aload_n 0, 1) := dz_at dqX10_nextToken_p124 8 rfl
theorem dX10_nextToken_117 : decode cX10_nextToken 117 = .ok (.getfield 146, 3) := dz_at dqX10_nextToken_p124 9 rfl
theorem dX10_nextToken_120 : decode cX10_nextToken 120 = .ok (.iaload, 1) := dz_at dqX10_nextToken_p124 10 rfl
theorem dX10_nextToken_121 : decode cX10_nextToken 121 = .ok (.bipush 97, 2) := dz_at dqX10_nextToken_p124 11 rfl
theorem dX10_nextToken_123 : decode cX10_nextToken 123 = .ok (.bipush 122, 2) := dz_at dqX10_nextToken_p124 12 rfl
theorem dX10_nextToken_125 : decode cX10_nextToken 125 = .ok (.invokestatic 93, 3) := dz_at dqX10_nextToken_p124 13 rfl
set_option maxRecDepth 20000 in
theorem dqX10_nextToken_p125 : dz_rn 128 (cX10_nextToken.data.toList.drop 128) [(4, 7), (0, 4), (0, 4), (3, 0), (0, 4), (3, 0), (0, 26), (2, 0), (4, 4), (3, 4), (0, 4), (3, 0)] = some [(128, .ifCond .eq 63, 3), (131, .aload_n 0, 1), (132, .aload_n 0, 1), (133, .getfield 146, 3), (136, .aload_n 0, 1), (137, .getfield 149, 3), (140, .isub, 1), (141, .bipush 9, 2), (143, .if_icmp .ge 29, 3), (146, .ldc2_w 164, 3), (149, .aload_n 0, 1), (150, .getfield 160, 3)] := by decide +kernel
theorem dX10_nextToken_128 : decode cX10_nextToken 128 = .ok (.ifCond .eq 63, 3) := dz_at dqX10_nextToken_p125 0 rfl
theorem dX10_nextToken_131 : decode cX10_nextToken 131 = .ok (.aload_n 0, 1) := dz_at dqX10_nextToken_p125 1 rfl
theorem dX10_nextToken_132 : decode cX10_nextToken 132 = .ok (.aload_n 0, 1) := dz_at dqX10_nextToken_p125 2 rfl
theorem dX10_nextToken_133 : decode cX10_nextToken 133 = .ok (.getfield 146, 3) := dz_at dqX10_nextToken_p125 3 rfl
theorem dX10_nextToken_136 : decode cX10_nextToken 136 = .ok (.aload_n 0, 1) := dz_at dqX10_nextToken_p125 4 rfl
theorem dX10_nextToken_137 : decode cX10_nextToken 137 = .ok (.getfield 149, 3) := dz_at dqX10_nextToken_p125 5 rfl
theorem dX10_nextToken_140 : decode cX10_nextToken 140 = .ok (.isub, 1) := dz_at dqX10_nextToken_p125 6 rfl
theorem dX10_nextToken_141 : decode cX10_nextToken 141 = .ok (.bipush 9, 2) := dz_at dqX10_nextToken_p125 7 rfl
theorem dX10_nextToken_143 : decode cX10_nextToken 143 = .ok (.if_icmp .ge 29, 3) := dz_at dqX10_nextToken_p125 8 rfl
theorem dX10_nextToken_146 : decode cX10_nextToken 146 = .ok (.ldc2_w 164, 3) := dz_at dqX10_nextToken_p125 9 rfl
theorem dX10_nextToken_149 : decode cX10_nextToken 149 = .ok (.aload_n 0, 1) := dz_at dqX10_nextToken_p125 10 rfl
theorem dX10_nextToken_150 : decode cX10_nextToken 150 = .ok (.getfield 160, 3) := dz_at dqX10_nextToken_p125 11 rfl
theorem dX10_nextToken_153 : decode cX10_nextToken 153 = .ok (.lmul, 1) := by decide +kernel
set_option maxRecDepth 20000 in
theorem dqX10_nextToken_p126 : dz_rn 154 (cX10_nextToken.data.toList.drop 154) [(0, 4), (3, 0), (0, 4), (3, 0), (0, 10), (0, 33)] = some [(154, .aload_n 0, 1), (155, .getfield 62, 3), (158, .aload_n 0, 1), (159, .getfield 146, 3), (162, .iaload, 1), (163, .i2l, 1)] := by decide +kernel
theorem dX10_nextToken_154 : decode cX10_nextToken 154 = .ok (.aload_n 0, 1) := dz_at dqX10_nextToken_p126 0 rfl
theorem dX10_nextToken_155 : decode cX10_nextToken 155 = .ok (.getfield 62, 3) := dz_at dqX10_nextToken_p126 1 rfl
theorem dX10_nextToken_158 : decode cX10_nextToken 158 = .ok (.aload_n 0, 1) := dz_at dqX10_nextToken_p126 2 rfl
theorem dX10_nextToken_159 : decode cX10_nextToken 159 = .ok (.getfield 146, 3) := dz_at dqX10_nextToken_p126 3 rfl
theorem dX10_nextToken_162 : decode cX10_nextToken 162 = .ok (.iaload, 1) := dz_at dqX10_nextToken_p126 4 rfl
theorem dX10_nextToken_163 : decode cX10_nextToken 163 = .ok (.i2l, 1) := dz_at dqX10_nextToken_p126 5 rfl
theorem dX10_nextToken_164 : decode cX10_nextToken 164 = .ok (.ladd, 1) := by decide +kernel
theorem dX10_nextToken_165 : decode cX10_nextToken 165 = .ok (.ldc2_w 166, 3) := by decide +kernel
theorem dX10_nextToken_168 : decode cX10_nextToken 168 = .ok (.lsub, 1) := by decide +kernel
set_option maxRecDepth 20000 in
theorem dqX10_nextToken_p127 : dz_rn 169 (cX10_nextToken.data.toList.drop 169) [(4, 0), (3, 4), (3, 3), (0, 4), (0, 28), (3, 0), (0, 9), (0, 11), (3, 3), (4, 0), (0, 4), (0, 4), (3, 0), (0, 4)] = some [(169, .goto 6, 3), (172, .ldc2_w 168, 3), (175, .putfield 160, 3), (178, .aload_n 0, 1), (179, .dup, 1), (180, .getfield 146, 3), (183, .iconst 1, 1), (184, .iadd, 1), (185, .putfield 146, 3), (188, .goto (-87), 3), (191, .aload_n 0, 1), (192, .aload_n 0, 1), (193, .getfield 146, 3), (196, .aload_n 0, 1)] := by decide +kernel
theorem dX10_nextToken_169 : decode cX10_nextToken 169 = .ok (.goto 6, 3) := dz_at dqX10_nextToken_p127 0 rfl
theorem dX10_nextToken_172 : decode cX10_nextToken 172 = .ok (.ldc2_w 168, 3) := dz_at dqX10_nextToken_p127 1 rfl
theorem dX10_nextToken_175 : decode cX10_nextToken 175 = .ok (.putfield 160, 3) := dz_at dqX10_nextToken_p127 2 rfl
theorem dX10_nextToken_178 : decode cX10_nextToken 178 = .ok (.aload_n 0, 1) := dz_at dqX10_nextToken_p127 3 rfl
theorem dX10_nextToken_179 : decode cX10_nextToken 179 = .ok (.dup, 1) := dz_at dqX10_nextToken_p127 4 rfl
theorem dX10_nextToken_180 : decode cX10_nextToken 180 = .ok (.getfield 146, 3) := dz_at dqX10_nextToken_p127 5 rfl
theorem dX10_nextToken_183 : decode cX10_nextToken 183 = .ok (.iconst 1, 1) := dz_at dqX10_nextToken_p127 6 rfl
theorem dX10_nextToken_184 : decode cX10_nextToken 184 = .ok (.iadd, 1) := dz_at dqX10_nextToken_p127 7 rfl
theorem dX10_nextToken_185 : decode cX10_nextToken 185 = .ok (.putfield 146, 3) := dz_at dqX10_nextToken_p127 8 rfl
theorem dX10_nextToken_188 : decode cX10_nextToken 188 = .ok (.goto (-87), 3) := dz_at dqX10_nextToken_p127 9 rfl
theorem dX10_nextToken_191 : decode cX10_nextToken 191 = .ok (.aload_n 0, 1) := dz_at dqX10_nextToken_p127 10 rfl
theorem dX10_nextToken_192 : decode cX10_nextToken 192 = .ok (.aload_n 0, 1) := dz_at dqX10_nextToken_p127 11 rfl
theorem dX10_nextToken_193 : decode cX10_nextToken 193 = .ok (.getfield 146, 3) := dz_at dqX10_nextToken_p127 12 rfl
theorem dX10_nextToken_196 : decode cX10_nextToken 196 = .ok (.aload_n 0, 1) := dz_at dqX10_nextToken_p127 13 rfl
set_option maxRecDepth 20000 in
theorem dqX10_nextToken_p128 : dz_rn 197 (cX10_nextToken.data.toList.drop 197) [(3, 0), (0, 26), (2, 0), (4, 6), (3, 4), (4, 0), (0, 4), (3, 0), (3, 3), (4, 0), (0, 4), (3, 0), (0, 4), (3, 0)] = some [(197, .getfield 149, 3), (200, .isub, 1), (201, .bipush 9, 2), (203, .if_icmp .le 9, 3), (206, .ldc2_w 168, 3), (209, .goto 7, 3), (212, .aload_n 0, 1), (213, .getfield 160, 3), (216, .putfield 160, 3), (219, .goto 175, 3), (222, .aload_n 0, 1), (223, .getfield 62, 3), (226, .aload_n 0, 1), (227, .getfield 146, 3)] := by decide +kernel
theorem dX10_nextToken_197 : decode cX10_nextToken 197 = .ok (.getfield 149, 3) := dz_at dqX10_nextToken_p128 0 rfl
theorem dX10_nextToken_200 : decode cX10_nextToken 200 = .ok (.isub, 1) := dz_at dqX10_nextToken_p128 1 rfl
theorem dX10_nextToken_201 : decode cX10_nextToken 201 = .ok (.bipush 9, 2) := dz_at dqX10_nextToken_p128 2 rfl
theorem dX10_nextToken_203 : decode cX10_nextToken 203 = .ok (.if_icmp .le 9, 3) := dz_at dqX10_nextToken_p128 3 rfl
theorem dX10_nextToken_206 : decode cX10_nextToken 206 = .ok (.ldc2_w 168, 3) := dz_at dqX10_nextToken_p128 4 rfl
theorem dX10_nextToken_209 : decode cX10_nextToken 209 = .ok (.goto 7, 3) := dz_at dqX10_nextToken_p128 5 rfl
theorem dX10_nextToken_212 : decode cX10_nextToken 212 = .ok (.aload_n 0, 1) := dz_at dqX10_nextToken_p128 6 rfl
theorem dX10_nextToken_213 : decode cX10_nextToken 213 = .ok (.getfield 160, 3) := dz_at dqX10_nextToken_p128 7 rfl
theorem dX10_nextToken_216 : decode cX10_nextToken 216 = .ok (.putfield 160, 3) := dz_at dqX10_nextToken_p128 8 rfl
theorem dX10_nextToken_219 : decode cX10_nextToken 219 = .ok (.goto 175, 3) := dz_at dqX10_nextToken_p128 9 rfl
theorem dX10_nextToken_222 : decode cX10_nextToken 222 = .ok (.aload_n 0, 1) := dz_at dqX10_nextToken_p128 10 rfl
theorem dX10_nextToken_223 : decode cX10_nextToken 223 = .ok (.getfield 62, 3) := dz_at dqX10_nextToken_p128 11 rfl
theorem dX10_nextToken_226 : decode cX10_nextToken 226 = .ok (.aload_n 0, 1) := dz_at dqX10_nextToken_p128 12 rfl
theorem dX10_nextToken_227 : decode cX10_nextToken 227 = .ok (.getfield 146, 3) := dz_at dqX10_nextToken_p128 13 rfl
set_option maxRecDepth 20000 in
theorem dqX10_nextToken_p129 : dz_rn 230 (cX10_nextToken.data.toList.drop 230) [(0, 10), (2, 0), (2, 0), (3, 2), (4, 7), (0, 4), (3, 0), (0, 4), (3, 0), (4, 4), (0, 4), (3, 0), (0, 4), (3, 0)] = some [(230, .iaload, 1), (231, .bipush 48, 2), (233, .bipush 57, 2), (235, .invokestatic 93, 3), (238, .ifCond .eq 119, 3), (241, .aload_n 0, 1), (242, .getfield 146, 3), (245, .aload_n 0, 1), (246, .getfield 141, 3), (249, .if_icmp .ge 84, 3), (252, .aload_n 0, 1), (253, .getfield 62, 3), (256, .aload_n 0, 1), (257, .getfield 146, 3)] := by decide +kernel
theorem dX10_nextToken_230 : decode cX10_nextToken 230 = .ok (.iaload, 1) := dz_at dqX10_nextToken_p129 0 rfl
theorem dX10_nextToken_231 : decode cX10_nextToken 231 = .ok (.bipush 48, 2) := dz_at dqX10_nextToken_p129 1 rfl
theorem dX10_nextToken_233 : decode cX10_nextToken 233 = .ok (.bipush 57, 2) := dz_at dqX10_nextToken_p129 2 rfl
theorem dX10_nextToken_235 : decode cX10_nextToken 235 = .ok (.invokestatic 93, 3) := dz_at dqX10_nextToken_p129 3 rfl
theorem dX10_nextToken_238 : decode cX10_nextToken 238 = .ok (.ifCond .eq 119, 3) := dz_at dqX10_nextToken_p129 4 rfl
theorem dX10_nextToken_241 : decode cX10_nextToken 241 = .ok (.aload_n 0, 1) := dz_at dqX10_nextToken_p129 5 rfl
theorem dX10_nextToken_242 : decode cX10_nextToken 242 = .ok (.getfield 146, 3) := dz_at dqX10_nextToken_p129 6 rfl
theorem dX10_nextToken_245 : decode cX10_nextToken 245 = .ok (.aload_n 0, 1) := dz_at dqX10_nextToken_p129 7 rfl
theorem dX10_nextToken_246 : decode cX10_nextToken 246 = .ok (.getfield 141, 3) := dz_at dqX10_nextToken_p129 8 rfl
theorem dX10_nextToken_249 : decode cX10_nextToken 249 = .ok (.if_icmp .ge 84, 3) := dz_at dqX10_nextToken_p129 9 rfl
theorem dX10_nextToken_252 : decode cX10_nextToken 252 = .ok (.aload_n 0, 1) := dz_at dqX10_nextToken_p129 10 rfl
theorem dX10_nextToken_253 : decode cX10_nextToken 253 = .ok (.getfield 62, 3) := dz_at dqX10_nextToken_p129 11 rfl
theorem dX10_nextToken_256 : decode cX10_nextToken 256 = .ok (.aload_n 0, 1) := dz_at dqX10_nextToken_p129 12 rfl
theorem dX10_nextToken_257 : decode cX10_nextToken 257 = .ok (.getfield 146, 3) := dz_at dqX10_nextToken_p129 13 rfl
set_option maxRecDepth 20000 in
theorem dqX10_nextToken_p1210 : dz_rn 260 (cX10_nextToken.data.toList.drop 260) [(0, 10), (2, 0), (2, 0), (3, 2), (4, 7), (0, 4), (0, 4), (3, 0), (0, 14), (4, 4), (2, 0), (0, 4), (3, 0), (0, 23)] = some [(260, .iaload, 1), (261, .bipush 48, 2), (263, .bipush 57, 2), (265, .invokestatic 93, 3), (268, .ifCond .eq 65, 3), (271, .aload_n 0, 1), (272, .aload_n 0, 1), (273, .getfield 152, 3), (276, .iconst 2, 1), (277, .if_icmp .ge 26, 3), (280, .bipush 10, 2), (282, .aload_n 0, 1), (283, .getfield 155, 3), (286, .imul, 1)] := by decide +kernel
theorem dX10_nextToken_260 : decode cX10_nextToken 260 = .ok (.iaload, 1) := dz_at dqX10_nextToken_p1210 0 rfl
theorem dX10_nextToken_261 : decode cX10_nextToken 261 = .ok (.bipush 48, 2) := dz_at dqX10_nextToken_p1210 1 rfl
theorem dX10_nextToken_263 : decode cX10_nextToken 263 = .ok (.bipush 57, 2) := dz_at dqX10_nextToken_p1210 2 rfl
theorem dX10_nextToken_265 : decode cX10_nextToken 265 = .ok (.invokestatic 93, 3) := dz_at dqX10_nextToken_p1210 3 rfl
theorem dX10_nextToken_268 : decode cX10_nextToken 268 = .ok (.ifCond .eq 65, 3) := dz_at dqX10_nextToken_p1210 4 rfl
theorem dX10_nextToken_271 : decode cX10_nextToken 271 = .ok (.aload_n 0, 1) := dz_at dqX10_nextToken_p1210 5 rfl
theorem dX10_nextToken_272 : decode cX10_nextToken 272 = .ok (.aload_n 0, 1) := dz_at dqX10_nextToken_p1210 6 rfl
theorem dX10_nextToken_273 : decode cX10_nextToken 273 = .ok (.getfield 152, 3) := dz_at dqX10_nextToken_p1210 7 rfl
theorem dX10_nextToken_276 : decode cX10_nextToken 276 = .ok (.iconst 2, 1) := dz_at dqX10_nextToken_p1210 8 rfl
theorem dX10_nextToken_277 : decode cX10_nextToken 277 = .ok (.if_icmp .ge 26, 3) := dz_at dqX10_nextToken_p1210 9 rfl
theorem dX10_nextToken_280 : decode cX10_nextToken 280 = .ok (.bipush 10, 2) := dz_at dqX10_nextToken_p1210 10 rfl
theorem dX10_nextToken_282 : decode cX10_nextToken 282 = .ok (.aload_n 0, 1) := dz_at dqX10_nextToken_p1210 11 rfl
theorem dX10_nextToken_283 : decode cX10_nextToken 283 = .ok (.getfield 155, 3) := dz_at dqX10_nextToken_p1210 12 rfl
theorem dX10_nextToken_286 : decode cX10_nextToken 286 = .ok (.imul, 1) := dz_at dqX10_nextToken_p1210 13 rfl
set_option maxRecDepth 20000 in
theorem dqX10_nextToken_p1211 : dz_rn 287 (cX10_nextToken.data.toList.drop 287) [(0, 4), (3, 0), (0, 4), (3, 0), (0, 10), (0, 11), (2, 0), (0, 26), (4, 0), (0, 4), (3, 0), (3, 3), (0, 4), (0, 28)] = some [(287, .aload_n 0, 1), (288, .getfield 62, 3), (291, .aload_n 0, 1), (292, .getfield 146, 3), (295, .iaload, 1), (296, .iadd, 1), (297, .bipush 48, 2), (299, .isub, 1), (300, .goto 7, 3), (303, .aload_n 0, 1), (304, .getfield 155, 3), (307, .putfield 155, 3), (310, .aload_n 0, 1), (311, .dup, 1)] := by decide +kernel
theorem dX10_nextToken_287 : decode cX10_nextToken 287 = .ok (.aload_n 0, 1) := dz_at dqX10_nextToken_p1211 0 rfl
theorem dX10_nextToken_288 : decode cX10_nextToken 288 = .ok (.getfield 62, 3) := dz_at dqX10_nextToken_p1211 1 rfl
theorem dX10_nextToken_291 : decode cX10_nextToken 291 = .ok (.aload_n 0, 1) := dz_at dqX10_nextToken_p1211 2 rfl
theorem dX10_nextToken_292 : decode cX10_nextToken 292 = .ok (.getfield 146, 3) := dz_at dqX10_nextToken_p1211 3 rfl
theorem dX10_nextToken_295 : decode cX10_nextToken 295 = .ok (.iaload, 1) := dz_at dqX10_nextToken_p1211 4 rfl
theorem dX10_nextToken_296 : decode cX10_nextToken 296 = .ok (.iadd, 1) := dz_at dqX10_nextToken_p1211 5 rfl
theorem dX10_nextToken_297 : decode cX10_nextToken 297 = .ok (.bipush 48, 2) := dz_at dqX10_nextToken_p1211 6 rfl
theorem dX10_nextToken_299 : decode cX10_nextToken 299 = .ok (.isub, 1) := dz_at dqX10_nextToken_p1211 7 rfl
theorem dX10_nextToken_300 : decode cX10_nextToken 300 = .ok (.goto 7, 3) := dz_at dqX10_nextToken_p1211 8 rfl
theorem dX10_nextToken_303 : decode cX10_nextToken 303 = .ok (.aload_n 0, 1) := dz_at dqX10_nextToken_p1211 9 rfl
theorem dX10_nextToken_304 : decode cX10_nextToken 304 = .ok (.getfield 155, 3) := dz_at dqX10_nextToken_p1211 10 rfl
theorem dX10_nextToken_307 : decode cX10_nextToken 307 = .ok (.putfield 155, 3) := dz_at dqX10_nextToken_p1211 11 rfl
theorem dX10_nextToken_310 : decode cX10_nextToken 310 = .ok (.aload_n 0, 1) := dz_at dqX10_nextToken_p1211 12 rfl
theorem dX10_nextToken_311 : decode cX10_nextToken 311 = .ok (.dup, 1) := dz_at dqX10_nextToken_p1211 13 rfl
set_option maxRecDepth 20000 in
theorem dqX10_nextToken_p1212 : dz_rn 312 (cX10_nextToken.data.toList.drop 312) [(3, 0), (0, 9), (0, 11), (3, 3), (0, 4), (0, 28), (3, 0), (0, 9), (0, 11), (3, 3), (4, 0), (0, 4), (0, 4), (3, 0)] = some [(312, .getfield 152, 3), (315, .iconst 1, 1), (316, .iadd, 1), (317, .putfield 152, 3), (320, .aload_n 0, 1), (321, .dup, 1), (322, .getfield 146, 3), (325, .iconst 1, 1), (326, .iadd, 1), (327, .putfield 146, 3), (330, .goto (-89), 3), (333, .aload_n 0, 1), (334, .aload_n 0, 1), (335, .getfield 152, 3)] := by decide +kernel
theorem dX10_nextToken_312 : decode cX10_nextToken 312 = .ok (.getfield 152, 3) := dz_at dqX10_nextToken_p1212 0 rfl
theorem dX10_nextToken_315 : decode cX10_nextToken 315 = .ok (.iconst 1, 1) := dz_at dqX10_nextToken_p1212 1 rfl
theorem dX10_nextToken_316 : decode cX10_nextToken 316 = .ok (.iadd, 1) := dz_at dqX10_nextToken_p1212 2 rfl
theorem dX10_nextToken_317 : decode cX10_nextToken 317 = .ok (.putfield 152, 3) := dz_at dqX10_nextToken_p1212 3 rfl
theorem dX10_nextToken_320 : decode cX10_nextToken 320 = .ok (.aload_n 0, 1) := dz_at dqX10_nextToken_p1212 4 rfl
theorem dX10_nextToken_321 : decode cX10_nextToken 321 = .ok (.dup, 1) := dz_at dqX10_nextToken_p1212 5 rfl
theorem dX10_nextToken_322 : decode cX10_nextToken 322 = .ok (.getfield 146, 3) := dz_at dqX10_nextToken_p1212 6 rfl
theorem dX10_nextToken_325 : decode cX10_nextToken 325 = .ok (.iconst 1, 1) := dz_at dqX10_nextToken_p1212 7 rfl
theorem dX10_nextToken_326 : decode cX10_nextToken 326 = .ok (.iadd, 1) := dz_at dqX10_nextToken_p1212 8 rfl
theorem dX10_nextToken_327 : decode cX10_nextToken 327 = .ok (.putfield 146, 3) := dz_at dqX10_nextToken_p1212 9 rfl
theorem dX10_nextToken_330 : decode cX10_nextToken 330 = .ok (.goto (-89), 3) := dz_at dqX10_nextToken_p1212 10 rfl
theorem dX10_nextToken_333 : decode cX10_nextToken 333 = .ok (.aload_n 0, 1) := dz_at dqX10_nextToken_p1212 11 rfl
theorem dX10_nextToken_334 : decode cX10_nextToken 334 = .ok (.aload_n 0, 1) := dz_at dqX10_nextToken_p1212 12 rfl
theorem dX10_nextToken_335 : decode cX10_nextToken 335 = .ok (.getfield 152, 3) := dz_at dqX10_nextToken_p1212 13 rfl
set_option maxRecDepth 20000 in
theorem dqX10_nextToken_p1213 : dz_rn 338 (cX10_nextToken.data.toList.drop 338) [(0, 14), (4, 6), (3, 4), (4, 0), (3, 4), (3, 3), (4, 0), (0, 4), (0, 4), (3, 0), (0, 4), (3, 0), (0, 10), (2, 0)] = some [(338, .iconst 2, 1), (339, .if_icmp .le 9, 3), (342, .ldc2_w 168, 3), (345, .goto 6, 3), (348, .ldc2_w 170, 3), (351, .putfield 160, 3), (354, .goto 40, 3), (357, .aload_n 0, 1), (358, .aload_n 0, 1), (359, .getfield 62, 3), (362, .aload_n 0, 1), (363, .getfield 146, 3), (366, .iaload, 1), (367, .bipush 59, 2)] := by decide +kernel
theorem dX10_nextToken_338 : decode cX10_nextToken 338 = .ok (.iconst 2, 1) := dz_at dqX10_nextToken_p1213 0 rfl
theorem dX10_nextToken_339 : decode cX10_nextToken 339 = .ok (.if_icmp .le 9, 3) := dz_at dqX10_nextToken_p1213 1 rfl
theorem dX10_nextToken_342 : decode cX10_nextToken 342 = .ok (.ldc2_w 168, 3) := dz_at dqX10_nextToken_p1213 2 rfl
theorem dX10_nextToken_345 : decode cX10_nextToken 345 = .ok (.goto 6, 3) := dz_at dqX10_nextToken_p1213 3 rfl
theorem dX10_nextToken_348 : decode cX10_nextToken 348 = .ok (.ldc2_w 170, 3) := dz_at dqX10_nextToken_p1213 4 rfl
theorem dX10_nextToken_351 : decode cX10_nextToken 351 = .ok (.putfield 160, 3) := dz_at dqX10_nextToken_p1213 5 rfl
theorem dX10_nextToken_354 : decode cX10_nextToken 354 = .ok (.goto 40, 3) := dz_at dqX10_nextToken_p1213 6 rfl
theorem dX10_nextToken_357 : decode cX10_nextToken 357 = .ok (.aload_n 0, 1) := dz_at dqX10_nextToken_p1213 7 rfl
theorem dX10_nextToken_358 : decode cX10_nextToken 358 = .ok (.aload_n 0, 1) := dz_at dqX10_nextToken_p1213 8 rfl
theorem dX10_nextToken_359 : decode cX10_nextToken 359 = .ok (.getfield 62, 3) := dz_at dqX10_nextToken_p1213 9 rfl
theorem dX10_nextToken_362 : decode cX10_nextToken 362 = .ok (.aload_n 0, 1) := dz_at dqX10_nextToken_p1213 10 rfl
theorem dX10_nextToken_363 : decode cX10_nextToken 363 = .ok (.getfield 146, 3) := dz_at dqX10_nextToken_p1213 11 rfl
theorem dX10_nextToken_366 : decode cX10_nextToken 366 = .ok (.iaload, 1) := dz_at dqX10_nextToken_p1213 12 rfl
theorem dX10_nextToken_367 : decode cX10_nextToken 367 = .ok (.bipush 59, 2) := dz_at dqX10_nextToken_p1213 13 rfl
set_option maxRecDepth 20000 in
theorem dqX10_nextToken_p1214 : dz_rn 369 (cX10_nextToken.data.toList.drop 369) [(4, 2), (3, 4), (4, 0), (3, 4), (3, 3), (0, 4), (0, 28), (3, 0), (0, 9), (0, 11), (3, 3), (0, 25)] = some [(369, .if_icmp .ne 9, 3), (372, .ldc2_w 172, 3), (375, .goto 6, 3), (378, .ldc2_w 168, 3), (381, .putfield 160, 3), (384, .aload_n 0, 1), (385, .dup, 1), (386, .getfield 146, 3), (389, .iconst 1, 1), (390, .iadd, 1), (391, .putfield 146, 3), (394, .return_, 1)] := by decide +kernel
theorem dX10_nextToken_369 : decode cX10_nextToken 369 = .ok (.if_icmp .ne 9, 3) := dz_at dqX10_nextToken_p1214 0 rfl
theorem dX10_nextToken_372 : decode cX10_nextToken 372 = .ok (.ldc2_w 172, 3) := dz_at dqX10_nextToken_p1214 1 rfl
theorem dX10_nextToken_375 : decode cX10_nextToken 375 = .ok (.goto 6, 3) := dz_at dqX10_nextToken_p1214 2 rfl
theorem dX10_nextToken_378 : decode cX10_nextToken 378 = .ok (.ldc2_w 168, 3) := dz_at dqX10_nextToken_p1214 3 rfl
theorem dX10_nextToken_381 : decode cX10_nextToken 381 = .ok (.putfield 160, 3) := dz_at dqX10_nextToken_p1214 4 rfl
theorem dX10_nextToken_384 : decode cX10_nextToken 384 = .ok (.aload_n 0, 1) := dz_at dqX10_nextToken_p1214 5 rfl
theorem dX10_nextToken_385 : decode cX10_nextToken 385 = .ok (.dup, 1) := dz_at dqX10_nextToken_p1214 6 rfl
theorem dX10_nextToken_386 : decode cX10_nextToken 386 = .ok (.getfield 146, 3) := dz_at dqX10_nextToken_p1214 7 rfl
theorem dX10_nextToken_389 : decode cX10_nextToken 389 = .ok (.iconst 1, 1) := dz_at dqX10_nextToken_p1214 8 rfl
theorem dX10_nextToken_390 : decode cX10_nextToken 390 = .ok (.iadd, 1) := dz_at dqX10_nextToken_p1214 9 rfl
theorem dX10_nextToken_391 : decode cX10_nextToken 391 = .ok (.putfield 146, 3) := dz_at dqX10_nextToken_p1214 10 rfl
theorem dX10_nextToken_394 : decode cX10_nextToken 394 = .ok (.return_, 1) := dz_at dqX10_nextToken_p1214 11 rfl
set_option maxRecDepth 20000 in
theorem dqX10_fails_p120 : dz_rn 0 (cX10_fails.data.toList.drop 0) [(0, 4), (0, 4), (3, 0), (3, 3), (0, 8), (0, 12)] = some [(0, .aload_n 0, 1), (1, .aload_n 0, 1), (2, .getfield 149, 3), (5, .putfield 174, 3), (8, .iconst 0, 1), (9, .ireturn, 1)] := by decide +kernel
theorem dX10_fails_0 : decode cX10_fails 0 = .ok (.aload_n 0, 1) := dz_at dqX10_fails_p120 0 rfl
theorem dX10_fails_1 : decode cX10_fails 1 = .ok (.aload_n 0, 1) := dz_at dqX10_fails_p120 1 rfl
theorem dX10_fails_2 : decode cX10_fails 2 = .ok (.getfield 149, 3) := dz_at dqX10_fails_p120 2 rfl
theorem dX10_fails_5 : decode cX10_fails 5 = .ok (.putfield 174, 3) := dz_at dqX10_fails_p120 3 rfl
theorem dX10_fails_8 : decode cX10_fails 8 = .ok (.iconst 0, 1) := dz_at dqX10_fails_p120 4 rfl
theorem dX10_fails_9 : decode cX10_fails 9 = .ok (.ireturn, 1) := dz_at dqX10_fails_p120 5 rfl
set_option maxRecDepth 20000 in
theorem ggX10_isNumber_X10_nextToken : GoodIn wsX10_isNumber wsX10_nextToken := goodIn_r _ [9, 10, 11, 12, 13, 14, 3, 15, 1, 16, 17, 18, 2, 19, 20, 21, 8, 22, 28, 29, 30, 31, 32, 33, 34, 35, 36, 37, 38, 39, 40, 41, 42, 43, 44, 45, 46, 47, 48, 49, 50, 51, 52, 53, 54, 55, 56, 57, 58, 59, 60, 61, 62, 63, 64, 65, 66] rfl (by decide +kernel)
set_option maxRecDepth 20000 in
theorem gX10_isNumber_X10_nextToken : GoodIn wsX10_isNumber (wsV RX10 177 RX10 yX10_nextToken wsX10_nextToken) := goodIn_app (goodIn_of _ (by decide +kernel)) ggX10_isNumber_X10_nextToken
set_option maxRecDepth 20000 in
theorem ggX10_isNumber_X10_in : GoodIn wsX10_isNumber wsX10_in := goodIn_r _ [22] rfl (by decide +kernel)
set_option maxRecDepth 20000 in
theorem gX10_isNumber_X10_in : GoodIn wsX10_isNumber (va_wsS RX10 93 yX10_in wsX10_in) := goodIn_app (goodIn_of _ (by decide +kernel)) ggX10_isNumber_X10_in
set_option maxRecDepth 20000 in
theorem ggX10_isNumber_X10_fails : GoodIn wsX10_isNumber wsX10_fails := goodIn_r _ [26, 13, 27, 28, 29, 30, 31, 32, 33, 34, 35, 36, 37, 38, 39, 40, 41, 42, 43, 44, 45, 46, 47, 48, 49, 50, 51, 52, 53, 54, 55, 56, 57, 58, 59, 60, 61, 62, 63, 64, 65, 66] rfl (by decide +kernel)
set_option maxRecDepth 20000 in
theorem gX10_isNumber_X10_fails : GoodIn wsX10_isNumber (wsV RX10 180 RX10 yX10_fails wsX10_fails) := goodIn_app (goodIn_of _ (by decide +kernel)) ggX10_isNumber_X10_fails
set_option maxRecDepth 20000 in
theorem dqX10_isNumber_p120 : dz_rn 0 (cX10_isNumber.data.toList.drop 0) [(0, 4), (3, 1), (0, 4), (3, 0), (3, 4), (0, 40), (4, 8), (0, 4), (3, 0), (0, 2), (0, 3), (3, 2), (4, 8), (0, 4)] = some [(0, .aload_n 0, 1), (1, .invokevirtual 177, 3), (4, .aload_n 0, 1), (5, .getfield 160, 3), (8, .ldc2_w 170, 3), (11, .lcmp, 1), (12, .ifCond .ne 15, 3), (15, .aload_n 0, 1), (16, .getfield 155, 3), (19, .iload_n 2, 1), (20, .iload_n 3, 1), (21, .invokestatic 93, 3), (24, .ifCond .ne 8, 3), (27, .aload_n 0, 1)] := by decide +kernel
theorem dX10_isNumber_0 : decode cX10_isNumber 0 = .ok (.aload_n 0, 1) := dz_at dqX10_isNumber_p120 0 rfl
theorem dX10_isNumber_1 : decode cX10_isNumber 1 = .ok (.invokevirtual 177, 3) := dz_at dqX10_isNumber_p120 1 rfl
theorem dX10_isNumber_4 : decode cX10_isNumber 4 = .ok (.aload_n 0, 1) := dz_at dqX10_isNumber_p120 2 rfl
theorem dX10_isNumber_5 : decode cX10_isNumber 5 = .ok (.getfield 160, 3) := dz_at dqX10_isNumber_p120 3 rfl
theorem dX10_isNumber_8 : decode cX10_isNumber 8 = .ok (.ldc2_w 170, 3) := dz_at dqX10_isNumber_p120 4 rfl
theorem dX10_isNumber_11 : decode cX10_isNumber 11 = .ok (.lcmp, 1) := dz_at dqX10_isNumber_p120 5 rfl
theorem dX10_isNumber_12 : decode cX10_isNumber 12 = .ok (.ifCond .ne 15, 3) := dz_at dqX10_isNumber_p120 6 rfl
theorem dX10_isNumber_15 : decode cX10_isNumber 15 = .ok (.aload_n 0, 1) := dz_at dqX10_isNumber_p120 7 rfl
theorem dX10_isNumber_16 : decode cX10_isNumber 16 = .ok (.getfield 155, 3) := dz_at dqX10_isNumber_p120 8 rfl
theorem dX10_isNumber_19 : decode cX10_isNumber 19 = .ok (.iload_n 2, 1) := dz_at dqX10_isNumber_p120 9 rfl
theorem dX10_isNumber_20 : decode cX10_isNumber 20 = .ok (.iload_n 3, 1) := dz_at dqX10_isNumber_p120 10 rfl
theorem dX10_isNumber_21 : decode cX10_isNumber 21 = .ok (.invokestatic 93, 3) := dz_at dqX10_isNumber_p120 11 rfl
theorem dX10_isNumber_24 : decode cX10_isNumber 24 = .ok (.ifCond .ne 8, 3) := dz_at dqX10_isNumber_p120 12 rfl
theorem dX10_isNumber_27 : decode cX10_isNumber 27 = .ok (.aload_n 0, 1) := dz_at dqX10_isNumber_p120 13 rfl
set_option maxRecDepth 20000 in
theorem dqX10_isNumber_p121 : dz_rn 28 (cX10_isNumber.data.toList.drop 28) [(3, 1), (0, 12), (0, 4), (3, 0), (0, 1), (0, 4), (3, 0), (0, 22), (0, 9), (0, 12)] = some [(28, .invokevirtual 180, 3), (31, .ireturn, 1), (32, .aload_n 0, 1), (33, .getfield 65, 3), (36, .iload_n 1, 1), (37, .aload_n 0, 1), (38, .getfield 155, 3), (41, .iastore, 1), (42, .iconst 1, 1), (43, .ireturn, 1)] := by decide +kernel
theorem dX10_isNumber_28 : decode cX10_isNumber 28 = .ok (.invokevirtual 180, 3) := dz_at dqX10_isNumber_p121 0 rfl
theorem dX10_isNumber_31 : decode cX10_isNumber 31 = .ok (.ireturn, 1) := dz_at dqX10_isNumber_p121 1 rfl
theorem dX10_isNumber_32 : decode cX10_isNumber 32 = .ok (.aload_n 0, 1) := dz_at dqX10_isNumber_p121 2 rfl
theorem dX10_isNumber_33 : decode cX10_isNumber 33 = .ok (.getfield 65, 3) := dz_at dqX10_isNumber_p121 3 rfl
theorem dX10_isNumber_36 : decode cX10_isNumber 36 = .ok (.iload_n 1, 1) := dz_at dqX10_isNumber_p121 4 rfl
theorem dX10_isNumber_37 : decode cX10_isNumber 37 = .ok (.aload_n 0, 1) := dz_at dqX10_isNumber_p121 5 rfl
theorem dX10_isNumber_38 : decode cX10_isNumber 38 = .ok (.getfield 155, 3) := dz_at dqX10_isNumber_p121 6 rfl
theorem dX10_isNumber_41 : decode cX10_isNumber 41 = .ok (.iastore, 1) := dz_at dqX10_isNumber_p121 7 rfl
theorem dX10_isNumber_42 : decode cX10_isNumber 42 = .ok (.iconst 1, 1) := dz_at dqX10_isNumber_p121 8 rfl
theorem dX10_isNumber_43 : decode cX10_isNumber 43 = .ok (.ireturn, 1) := dz_at dqX10_isNumber_p121 9 rfl
set_option maxRecDepth 20000 in
theorem ggX10_isWord_X10_nextToken : GoodIn wsX10_isWord wsX10_nextToken := goodIn_r _ [6, 7, 8, 9, 10, 11, 12, 13, 1, 14, 15, 16, 17, 18, 19, 20, 5, 21, 27, 28, 29, 30, 31, 32, 33, 34, 35, 36, 37, 38, 39, 40, 41, 42, 43, 44, 45, 46, 47, 48, 49, 50, 51, 52, 53, 54, 55, 56, 57, 58, 59, 60, 61, 62, 63, 64, 65] rfl (by decide +kernel)
set_option maxRecDepth 20000 in
theorem gX10_isWord_X10_nextToken : GoodIn wsX10_isWord (wsV RX10 177 RX10 yX10_nextToken wsX10_nextToken) := goodIn_app (goodIn_of _ (by decide +kernel)) ggX10_isWord_X10_nextToken
set_option maxRecDepth 20000 in
theorem ggX10_isWord_X10_fails : GoodIn wsX10_isWord wsX10_fails := goodIn_r _ [25, 10, 26, 27, 28, 29, 30, 31, 32, 33, 34, 35, 36, 37, 38, 39, 40, 41, 42, 43, 44, 45, 46, 47, 48, 49, 50, 51, 52, 53, 54, 55, 56, 57, 58, 59, 60, 61, 62, 63, 64, 65] rfl (by decide +kernel)
set_option maxRecDepth 20000 in
theorem gX10_isWord_X10_fails : GoodIn wsX10_isWord (wsV RX10 180 RX10 yX10_fails wsX10_fails) := goodIn_app (goodIn_of _ (by decide +kernel)) ggX10_isWord_X10_fails
set_option maxRecDepth 20000 in
theorem dqX10_isWord_p120 : dz_rn 0 (cX10_isWord.data.toList.drop 0) [(0, 4), (3, 1), (0, 4), (3, 0), (0, 35), (0, 40), (4, 7), (0, 4), (3, 1), (4, 7), (0, 9), (4, 0), (0, 8), (0, 12)] = some [(0, .aload_n 0, 1), (1, .invokevirtual 177, 3), (4, .aload_n 0, 1), (5, .getfield 160, 3), (8, .lload_n 1, 1), (9, .lcmp, 1), (10, .ifCond .eq 10, 3), (13, .aload_n 0, 1), (14, .invokevirtual 180, 3), (17, .ifCond .eq 7, 3), (20, .iconst 1, 1), (21, .goto 4, 3), (24, .iconst 0, 1), (25, .ireturn, 1)] := by decide +kernel
theorem dX10_isWord_0 : decode cX10_isWord 0 = .ok (.aload_n 0, 1) := dz_at dqX10_isWord_p120 0 rfl
theorem dX10_isWord_1 : decode cX10_isWord 1 = .ok (.invokevirtual 177, 3) := dz_at dqX10_isWord_p120 1 rfl
theorem dX10_isWord_4 : decode cX10_isWord 4 = .ok (.aload_n 0, 1) := dz_at dqX10_isWord_p120 2 rfl
theorem dX10_isWord_5 : decode cX10_isWord 5 = .ok (.getfield 160, 3) := dz_at dqX10_isWord_p120 3 rfl
theorem dX10_isWord_8 : decode cX10_isWord 8 = .ok (.lload_n 1, 1) := dz_at dqX10_isWord_p120 4 rfl
theorem dX10_isWord_9 : decode cX10_isWord 9 = .ok (.lcmp, 1) := dz_at dqX10_isWord_p120 5 rfl
theorem dX10_isWord_10 : decode cX10_isWord 10 = .ok (.ifCond .eq 10, 3) := dz_at dqX10_isWord_p120 6 rfl
theorem dX10_isWord_13 : decode cX10_isWord 13 = .ok (.aload_n 0, 1) := dz_at dqX10_isWord_p120 7 rfl
theorem dX10_isWord_14 : decode cX10_isWord 14 = .ok (.invokevirtual 180, 3) := dz_at dqX10_isWord_p120 8 rfl
theorem dX10_isWord_17 : decode cX10_isWord 17 = .ok (.ifCond .eq 7, 3) := dz_at dqX10_isWord_p120 9 rfl
theorem dX10_isWord_20 : decode cX10_isWord 20 = .ok (.iconst 1, 1) := dz_at dqX10_isWord_p120 10 rfl
theorem dX10_isWord_21 : decode cX10_isWord 21 = .ok (.goto 4, 3) := dz_at dqX10_isWord_p120 11 rfl
theorem dX10_isWord_24 : decode cX10_isWord 24 = .ok (.iconst 0, 1) := dz_at dqX10_isWord_p120 12 rfl
theorem dX10_isWord_25 : decode cX10_isWord 25 = .ok (.ireturn, 1) := dz_at dqX10_isWord_p120 13 rfl
set_option maxRecDepth 20000 in
theorem ggX10_isLine_X10_nextToken : GoodIn wsX10_isLine wsX10_nextToken := goodIn_r _ [12, 13, 14, 15, 16, 17, 18, 19, 2, 20, 21, 22, 23, 24, 25, 26, 11, 27, 41, 42, 43, 44, 45, 46, 47, 48, 49, 50, 51, 52, 53, 54, 55, 56, 57, 58, 59, 60, 61, 62, 63, 64, 65, 66, 67, 68, 69, 70, 71, 72, 73, 74, 75, 76, 77, 78, 79] rfl (by decide +kernel)
set_option maxRecDepth 20000 in
theorem gX10_isLine_X10_nextToken : GoodIn wsX10_isLine (wsV RX10 177 RX10 yX10_nextToken wsX10_nextToken) := goodIn_app (goodIn_of _ (by decide +kernel)) ggX10_isLine_X10_nextToken
set_option maxRecDepth 20000 in
theorem ggX10_isLine_X10_isNumber : GoodIn wsX10_isLine wsX10_isNumber := goodIn_r _ [31, 2, 23, 18, 1, 8, 9, 10, 11, 12, 13, 14, 15, 16, 17, 19, 20, 21, 22, 24, 25, 26, 27, 32, 33, 34, 35, 36, 41, 42, 43, 44, 45, 46, 47, 48, 49, 50, 51, 52, 53, 54, 55, 56, 57, 58, 59, 60, 61, 62, 63, 64, 65, 66, 67, 68, 69, 70, 71, 72, 73, 74, 75, 76, 77, 78, 79] rfl (by decide +kernel)
set_option maxRecDepth 20000 in
theorem gX10_isLine_X10_isNumber : GoodIn wsX10_isLine (wsV RX10 192 RX10 yX10_isNumber wsX10_isNumber) := goodIn_app (goodIn_of _ (by decide +kernel)) ggX10_isLine_X10_isNumber
set_option maxRecDepth 20000 in
theorem ggX10_isLine_X10_isWord : GoodIn wsX10_isLine wsX10_isWord := goodIn_r _ [40, 2, 8, 9, 10, 11, 12, 13, 14, 15, 16, 17, 18, 19, 20, 21, 22, 23, 24, 25, 26, 27, 32, 33, 34, 35, 36, 41, 42, 43, 44, 45, 46, 47, 48, 49, 50, 51, 52, 53, 54, 55, 56, 57, 58, 59, 60, 61, 62, 63, 64, 65, 66, 67, 68, 69, 70, 71, 72, 73, 74, 75, 76, 77, 78, 79] rfl (by decide +kernel)
set_option maxRecDepth 20000 in
theorem gX10_isLine_X10_isWord : GoodIn wsX10_isLine (wsV RX10 197 RX10 yX10_isWord wsX10_isWord) := goodIn_app (goodIn_of _ (by decide +kernel)) ggX10_isLine_X10_isWord
set_option maxRecDepth 20000 in
theorem ggX10_isLine_X10_fails : GoodIn wsX10_isLine wsX10_fails := goodIn_r _ [35, 16, 36, 41, 42, 43, 44, 45, 46, 47, 48, 49, 50, 51, 52, 53, 54, 55, 56, 57, 58, 59, 60, 61, 62, 63, 64, 65, 66, 67, 68, 69, 70, 71, 72, 73, 74, 75, 76, 77, 78, 79] rfl (by decide +kernel)
set_option maxRecDepth 20000 in
theorem gX10_isLine_X10_fails : GoodIn wsX10_isLine (wsV RX10 180 RX10 yX10_fails wsX10_fails) := goodIn_app (goodIn_of _ (by decide +kernel)) ggX10_isLine_X10_fails
set_option maxRecDepth 20000 in
theorem dqX10_isLine_p120 : dz_rn 0 (cX10_isLine.data.toList.drop 0) [(0, 4), (3, 1), (0, 4), (3, 0), (0, 1), (0, 4), (3, 0), (3, 4), (0, 40), (4, 8), (0, 8), (4, 0), (0, 4), (3, 0)] = some [(0, .aload_n 0, 1), (1, .invokevirtual 177, 3), (4, .aload_n 0, 1), (5, .getfield 65, 3), (8, .iload_n 1, 1), (9, .aload_n 0, 1), (10, .getfield 160, 3), (13, .ldc2_w 184, 3), (16, .lcmp, 1), (17, .ifCond .ne 7, 3), (20, .iconst 0, 1), (21, .goto 49, 3), (24, .aload_n 0, 1), (25, .getfield 160, 3)] := by decide +kernel
theorem dX10_isLine_0 : decode cX10_isLine 0 = .ok (.aload_n 0, 1) := dz_at dqX10_isLine_p120 0 rfl
theorem dX10_isLine_1 : decode cX10_isLine 1 = .ok (.invokevirtual 177, 3) := dz_at dqX10_isLine_p120 1 rfl
theorem dX10_isLine_4 : decode cX10_isLine 4 = .ok (.aload_n 0, 1) := dz_at dqX10_isLine_p120 2 rfl
theorem dX10_isLine_5 : decode cX10_isLine 5 = .ok (.getfield 65, 3) := dz_at dqX10_isLine_p120 3 rfl
theorem dX10_isLine_8 : decode cX10_isLine 8 = .ok (.iload_n 1, 1) := dz_at dqX10_isLine_p120 4 rfl
theorem dX10_isLine_9 : decode cX10_isLine 9 = .ok (.aload_n 0, 1) := dz_at dqX10_isLine_p120 5 rfl
theorem dX10_isLine_10 : decode cX10_isLine 10 = .ok (.getfield 160, 3) := dz_at dqX10_isLine_p120 6 rfl
theorem dX10_isLine_13 : decode cX10_isLine 13 = .ok (.ldc2_w 184, 3) := dz_at dqX10_isLine_p120 7 rfl
theorem dX10_isLine_16 : decode cX10_isLine 16 = .ok (.lcmp, 1) := dz_at dqX10_isLine_p120 8 rfl
theorem dX10_isLine_17 : decode cX10_isLine 17 = .ok (.ifCond .ne 7, 3) := dz_at dqX10_isLine_p120 9 rfl
theorem dX10_isLine_20 : decode cX10_isLine 20 = .ok (.iconst 0, 1) := dz_at dqX10_isLine_p120 10 rfl
theorem dX10_isLine_21 : decode cX10_isLine 21 = .ok (.goto 49, 3) := dz_at dqX10_isLine_p120 11 rfl
theorem dX10_isLine_24 : decode cX10_isLine 24 = .ok (.aload_n 0, 1) := dz_at dqX10_isLine_p120 12 rfl
theorem dX10_isLine_25 : decode cX10_isLine 25 = .ok (.getfield 160, 3) := dz_at dqX10_isLine_p120 13 rfl
set_option maxRecDepth 20000 in
theorem dqX10_isLine_p121 : dz_rn 28 (cX10_isLine.data.toList.drop 28) [(3, 4), (0, 40), (4, 8), (0, 9), (4, 0), (0, 4), (3, 0), (3, 4), (0, 40), (4, 8), (0, 14), (4, 0), (0, 4), (3, 0)] = some [(28, .ldc2_w 186, 3), (31, .lcmp, 1), (32, .ifCond .ne 7, 3), (35, .iconst 1, 1), (36, .goto 34, 3), (39, .aload_n 0, 1), (40, .getfield 160, 3), (43, .ldc2_w 188, 3), (46, .lcmp, 1), (47, .ifCond .ne 7, 3), (50, .iconst 2, 1), (51, .goto 19, 3), (54, .aload_n 0, 1), (55, .getfield 160, 3)] := by decide +kernel
theorem dX10_isLine_28 : decode cX10_isLine 28 = .ok (.ldc2_w 186, 3) := dz_at dqX10_isLine_p121 0 rfl
theorem dX10_isLine_31 : decode cX10_isLine 31 = .ok (.lcmp, 1) := dz_at dqX10_isLine_p121 1 rfl
theorem dX10_isLine_32 : decode cX10_isLine 32 = .ok (.ifCond .ne 7, 3) := dz_at dqX10_isLine_p121 2 rfl
theorem dX10_isLine_35 : decode cX10_isLine 35 = .ok (.iconst 1, 1) := dz_at dqX10_isLine_p121 3 rfl
theorem dX10_isLine_36 : decode cX10_isLine 36 = .ok (.goto 34, 3) := dz_at dqX10_isLine_p121 4 rfl
theorem dX10_isLine_39 : decode cX10_isLine 39 = .ok (.aload_n 0, 1) := dz_at dqX10_isLine_p121 5 rfl
theorem dX10_isLine_40 : decode cX10_isLine 40 = .ok (.getfield 160, 3) := dz_at dqX10_isLine_p121 6 rfl
theorem dX10_isLine_43 : decode cX10_isLine 43 = .ok (.ldc2_w 188, 3) := dz_at dqX10_isLine_p121 7 rfl
theorem dX10_isLine_46 : decode cX10_isLine 46 = .ok (.lcmp, 1) := dz_at dqX10_isLine_p121 8 rfl
theorem dX10_isLine_47 : decode cX10_isLine 47 = .ok (.ifCond .ne 7, 3) := dz_at dqX10_isLine_p121 9 rfl
theorem dX10_isLine_50 : decode cX10_isLine 50 = .ok (.iconst 2, 1) := dz_at dqX10_isLine_p121 10 rfl
theorem dX10_isLine_51 : decode cX10_isLine 51 = .ok (.goto 19, 3) := dz_at dqX10_isLine_p121 11 rfl
theorem dX10_isLine_54 : decode cX10_isLine 54 = .ok (.aload_n 0, 1) := dz_at dqX10_isLine_p121 12 rfl
theorem dX10_isLine_55 : decode cX10_isLine 55 = .ok (.getfield 160, 3) := dz_at dqX10_isLine_p121 13 rfl
set_option maxRecDepth 20000 in
theorem dqX10_isLine_p122 : dz_rn 58 (cX10_isLine.data.toList.drop 58) [(3, 4), (0, 40), (4, 8), (0, 15), (4, 0), (0, 13), (0, 22), (0, 4), (3, 0), (0, 1), (0, 9), (0, 11), (0, 8), (0, 22)] = some [(58, .ldc2_w 190, 3), (61, .lcmp, 1), (62, .ifCond .ne 7, 3), (65, .iconst 3, 1), (66, .goto 4, 3), (69, .iconst (-1), 1), (70, .iastore, 1), (71, .aload_n 0, 1), (72, .getfield 65, 3), (75, .iload_n 1, 1), (76, .iconst 1, 1), (77, .iadd, 1), (78, .iconst 0, 1), (79, .iastore, 1)] := by decide +kernel
theorem dX10_isLine_58 : decode cX10_isLine 58 = .ok (.ldc2_w 190, 3) := dz_at dqX10_isLine_p122 0 rfl
theorem dX10_isLine_61 : decode cX10_isLine 61 = .ok (.lcmp, 1) := dz_at dqX10_isLine_p122 1 rfl
theorem dX10_isLine_62 : decode cX10_isLine 62 = .ok (.ifCond .ne 7, 3) := dz_at dqX10_isLine_p122 2 rfl
theorem dX10_isLine_65 : decode cX10_isLine 65 = .ok (.iconst 3, 1) := dz_at dqX10_isLine_p122 3 rfl
theorem dX10_isLine_66 : decode cX10_isLine 66 = .ok (.goto 4, 3) := dz_at dqX10_isLine_p122 4 rfl
theorem dX10_isLine_69 : decode cX10_isLine 69 = .ok (.iconst (-1), 1) := dz_at dqX10_isLine_p122 5 rfl
theorem dX10_isLine_70 : decode cX10_isLine 70 = .ok (.iastore, 1) := dz_at dqX10_isLine_p122 6 rfl
theorem dX10_isLine_71 : decode cX10_isLine 71 = .ok (.aload_n 0, 1) := dz_at dqX10_isLine_p122 7 rfl
theorem dX10_isLine_72 : decode cX10_isLine 72 = .ok (.getfield 65, 3) := dz_at dqX10_isLine_p122 8 rfl
theorem dX10_isLine_75 : decode cX10_isLine 75 = .ok (.iload_n 1, 1) := dz_at dqX10_isLine_p122 9 rfl
theorem dX10_isLine_76 : decode cX10_isLine 76 = .ok (.iconst 1, 1) := dz_at dqX10_isLine_p122 10 rfl
theorem dX10_isLine_77 : decode cX10_isLine 77 = .ok (.iadd, 1) := dz_at dqX10_isLine_p122 11 rfl
theorem dX10_isLine_78 : decode cX10_isLine 78 = .ok (.iconst 0, 1) := dz_at dqX10_isLine_p122 12 rfl
theorem dX10_isLine_79 : decode cX10_isLine 79 = .ok (.iastore, 1) := dz_at dqX10_isLine_p122 13 rfl
set_option maxRecDepth 20000 in
theorem dqX10_isLine_p123 : dz_rn 80 (cX10_isLine.data.toList.drop 80) [(0, 4), (3, 0), (0, 1), (0, 10)] = some [(80, .aload_n 0, 1), (81, .getfield 65, 3), (84, .iload_n 1, 1), (85, .iaload, 1)] := by decide +kernel
theorem dX10_isLine_80 : decode cX10_isLine 80 = .ok (.aload_n 0, 1) := dz_at dqX10_isLine_p123 0 rfl
theorem dX10_isLine_81 : decode cX10_isLine 81 = .ok (.getfield 65, 3) := dz_at dqX10_isLine_p123 1 rfl
theorem dX10_isLine_84 : decode cX10_isLine 84 = .ok (.iload_n 1, 1) := dz_at dqX10_isLine_p123 2 rfl
theorem dX10_isLine_85 : decode cX10_isLine 85 = .ok (.iaload, 1) := dz_at dqX10_isLine_p123 3 rfl
theorem dX10_isLine_86 : decode cX10_isLine 86 = .ok (.tableswitch 126 0 3 #[30, 62, 73, 84], 30) := by decide +kernel
set_option maxRecDepth 20000 in
theorem dqX10_isLine_p124 : dz_rn 116 (cX10_isLine.data.toList.drop 116) [(0, 4), (0, 1), (0, 9), (0, 11), (0, 8), (2, 0), (3, 1), (4, 7), (0, 4), (0, 1), (0, 14), (0, 11), (0, 8), (2, 0)] = some [(116, .aload_n 0, 1), (117, .iload_n 1, 1), (118, .iconst 1, 1), (119, .iadd, 1), (120, .iconst 0, 1), (121, .bipush 7, 2), (123, .invokevirtual 192, 3), (126, .ifCond .eq 20, 3), (129, .aload_n 0, 1), (130, .iload_n 1, 1), (131, .iconst 2, 1), (132, .iadd, 1), (133, .iconst 0, 1), (134, .bipush 8, 2)] := by decide +kernel
theorem dX10_isLine_116 : decode cX10_isLine 116 = .ok (.aload_n 0, 1) := dz_at dqX10_isLine_p124 0 rfl
theorem dX10_isLine_117 : decode cX10_isLine 117 = .ok (.iload_n 1, 1) := dz_at dqX10_isLine_p124 1 rfl
theorem dX10_isLine_118 : decode cX10_isLine 118 = .ok (.iconst 1, 1) := dz_at dqX10_isLine_p124 2 rfl
theorem dX10_isLine_119 : decode cX10_isLine 119 = .ok (.iadd, 1) := dz_at dqX10_isLine_p124 3 rfl
theorem dX10_isLine_120 : decode cX10_isLine 120 = .ok (.iconst 0, 1) := dz_at dqX10_isLine_p124 4 rfl
theorem dX10_isLine_121 : decode cX10_isLine 121 = .ok (.bipush 7, 2) := dz_at dqX10_isLine_p124 5 rfl
theorem dX10_isLine_123 : decode cX10_isLine 123 = .ok (.invokevirtual 192, 3) := dz_at dqX10_isLine_p124 6 rfl
theorem dX10_isLine_126 : decode cX10_isLine 126 = .ok (.ifCond .eq 20, 3) := dz_at dqX10_isLine_p124 7 rfl
theorem dX10_isLine_129 : decode cX10_isLine 129 = .ok (.aload_n 0, 1) := dz_at dqX10_isLine_p124 8 rfl
theorem dX10_isLine_130 : decode cX10_isLine 130 = .ok (.iload_n 1, 1) := dz_at dqX10_isLine_p124 9 rfl
theorem dX10_isLine_131 : decode cX10_isLine 131 = .ok (.iconst 2, 1) := dz_at dqX10_isLine_p124 10 rfl
theorem dX10_isLine_132 : decode cX10_isLine 132 = .ok (.iadd, 1) := dz_at dqX10_isLine_p124 11 rfl
theorem dX10_isLine_133 : decode cX10_isLine 133 = .ok (.iconst 0, 1) := dz_at dqX10_isLine_p124 12 rfl
theorem dX10_isLine_134 : decode cX10_isLine 134 = .ok (.bipush 8, 2) := dz_at dqX10_isLine_p124 13 rfl
set_option maxRecDepth 20000 in
theorem dqX10_isLine_p125 : dz_rn 136 (cX10_isLine.data.toList.drop 136) [(3, 1), (4, 7), (0, 9), (4, 0), (0, 8), (0, 12), (0, 4), (0, 1), (0, 14), (0, 11), (0, 9), (2, 0), (3, 1), (0, 12)] = some [(136, .invokevirtual 192, 3), (139, .ifCond .eq 7, 3), (142, .iconst 1, 1), (143, .goto 4, 3), (146, .iconst 0, 1), (147, .ireturn, 1), (148, .aload_n 0, 1), (149, .iload_n 1, 1), (150, .iconst 2, 1), (151, .iadd, 1), (152, .iconst 1, 1), (153, .bipush 99, 2), (155, .invokevirtual 192, 3), (158, .ireturn, 1)] := by decide +kernel
theorem dX10_isLine_136 : decode cX10_isLine 136 = .ok (.invokevirtual 192, 3) := dz_at dqX10_isLine_p125 0 rfl
theorem dX10_isLine_139 : decode cX10_isLine 139 = .ok (.ifCond .eq 7, 3) := dz_at dqX10_isLine_p125 1 rfl
theorem dX10_isLine_142 : decode cX10_isLine 142 = .ok (.iconst 1, 1) := dz_at dqX10_isLine_p125 2 rfl
theorem dX10_isLine_143 : decode cX10_isLine 143 = .ok (.goto 4, 3) := dz_at dqX10_isLine_p125 3 rfl
theorem dX10_isLine_146 : decode cX10_isLine 146 = .ok (.iconst 0, 1) := dz_at dqX10_isLine_p125 4 rfl
theorem dX10_isLine_147 : decode cX10_isLine 147 = .ok (.ireturn, 1) := dz_at dqX10_isLine_p125 5 rfl
theorem dX10_isLine_148 : decode cX10_isLine 148 = .ok (.aload_n 0, 1) := dz_at dqX10_isLine_p125 6 rfl
theorem dX10_isLine_149 : decode cX10_isLine 149 = .ok (.iload_n 1, 1) := dz_at dqX10_isLine_p125 7 rfl
theorem dX10_isLine_150 : decode cX10_isLine 150 = .ok (.iconst 2, 1) := dz_at dqX10_isLine_p125 8 rfl
theorem dX10_isLine_151 : decode cX10_isLine 151 = .ok (.iadd, 1) := dz_at dqX10_isLine_p125 9 rfl
theorem dX10_isLine_152 : decode cX10_isLine 152 = .ok (.iconst 1, 1) := dz_at dqX10_isLine_p125 10 rfl
theorem dX10_isLine_153 : decode cX10_isLine 153 = .ok (.bipush 99, 2) := dz_at dqX10_isLine_p125 11 rfl
theorem dX10_isLine_155 : decode cX10_isLine 155 = .ok (.invokevirtual 192, 3) := dz_at dqX10_isLine_p125 12 rfl
theorem dX10_isLine_158 : decode cX10_isLine 158 = .ok (.ireturn, 1) := dz_at dqX10_isLine_p125 13 rfl
set_option maxRecDepth 20000 in
theorem dqX10_isLine_p126 : dz_rn 159 (cX10_isLine.data.toList.drop 159) [(0, 4), (0, 1), (0, 14), (0, 11), (0, 8), (2, 0), (3, 1), (0, 12), (0, 4), (0, 1), (0, 9), (0, 11), (0, 8), (2, 0)] = some [(159, .aload_n 0, 1), (160, .iload_n 1, 1), (161, .iconst 2, 1), (162, .iadd, 1), (163, .iconst 0, 1), (164, .bipush 8, 2), (166, .invokevirtual 192, 3), (169, .ireturn, 1), (170, .aload_n 0, 1), (171, .iload_n 1, 1), (172, .iconst 1, 1), (173, .iadd, 1), (174, .iconst 0, 1), (175, .bipush 7, 2)] := by decide +kernel
theorem dX10_isLine_159 : decode cX10_isLine 159 = .ok (.aload_n 0, 1) := dz_at dqX10_isLine_p126 0 rfl
theorem dX10_isLine_160 : decode cX10_isLine 160 = .ok (.iload_n 1, 1) := dz_at dqX10_isLine_p126 1 rfl
theorem dX10_isLine_161 : decode cX10_isLine 161 = .ok (.iconst 2, 1) := dz_at dqX10_isLine_p126 2 rfl
theorem dX10_isLine_162 : decode cX10_isLine 162 = .ok (.iadd, 1) := dz_at dqX10_isLine_p126 3 rfl
theorem dX10_isLine_163 : decode cX10_isLine 163 = .ok (.iconst 0, 1) := dz_at dqX10_isLine_p126 4 rfl
theorem dX10_isLine_164 : decode cX10_isLine 164 = .ok (.bipush 8, 2) := dz_at dqX10_isLine_p126 5 rfl
theorem dX10_isLine_166 : decode cX10_isLine 166 = .ok (.invokevirtual 192, 3) := dz_at dqX10_isLine_p126 6 rfl
theorem dX10_isLine_169 : decode cX10_isLine 169 = .ok (.ireturn, 1) := dz_at dqX10_isLine_p126 7 rfl
theorem dX10_isLine_170 : decode cX10_isLine 170 = .ok (.aload_n 0, 1) := dz_at dqX10_isLine_p126 8 rfl
theorem dX10_isLine_171 : decode cX10_isLine 171 = .ok (.iload_n 1, 1) := dz_at dqX10_isLine_p126 9 rfl
theorem dX10_isLine_172 : decode cX10_isLine 172 = .ok (.iconst 1, 1) := dz_at dqX10_isLine_p126 10 rfl
theorem dX10_isLine_173 : decode cX10_isLine 173 = .ok (.iadd, 1) := dz_at dqX10_isLine_p126 11 rfl
theorem dX10_isLine_174 : decode cX10_isLine 174 = .ok (.iconst 0, 1) := dz_at dqX10_isLine_p126 12 rfl
theorem dX10_isLine_175 : decode cX10_isLine 175 = .ok (.bipush 7, 2) := dz_at dqX10_isLine_p126 13 rfl
set_option maxRecDepth 20000 in
theorem dqX10_isLine_p127 : dz_rn 177 (cX10_isLine.data.toList.drop 177) [(3, 1), (4, 7), (0, 4), (3, 4), (3, 1), (4, 7), (0, 4), (0, 1), (0, 14), (0, 11), (0, 9), (2, 0), (3, 1), (4, 7)] = some [(177, .invokevirtual 192, 3), (180, .ifCond .eq 30, 3), (183, .aload_n 0, 1), (184, .ldc2_w 195, 3), (187, .invokevirtual 197, 3), (190, .ifCond .eq 20, 3), (193, .aload_n 0, 1), (194, .iload_n 1, 1), (195, .iconst 2, 1), (196, .iadd, 1), (197, .iconst 1, 1), (198, .bipush 99, 2), (200, .invokevirtual 192, 3), (203, .ifCond .eq 7, 3)] := by decide +kernel
theorem dX10_isLine_177 : decode cX10_isLine 177 = .ok (.invokevirtual 192, 3) := dz_at dqX10_isLine_p127 0 rfl
theorem dX10_isLine_180 : decode cX10_isLine 180 = .ok (.ifCond .eq 30, 3) := dz_at dqX10_isLine_p127 1 rfl
theorem dX10_isLine_183 : decode cX10_isLine 183 = .ok (.aload_n 0, 1) := dz_at dqX10_isLine_p127 2 rfl
theorem dX10_isLine_184 : decode cX10_isLine 184 = .ok (.ldc2_w 195, 3) := dz_at dqX10_isLine_p127 3 rfl
theorem dX10_isLine_187 : decode cX10_isLine 187 = .ok (.invokevirtual 197, 3) := dz_at dqX10_isLine_p127 4 rfl
theorem dX10_isLine_190 : decode cX10_isLine 190 = .ok (.ifCond .eq 20, 3) := dz_at dqX10_isLine_p127 5 rfl
theorem dX10_isLine_193 : decode cX10_isLine 193 = .ok (.aload_n 0, 1) := dz_at dqX10_isLine_p127 6 rfl
theorem dX10_isLine_194 : decode cX10_isLine 194 = .ok (.iload_n 1, 1) := dz_at dqX10_isLine_p127 7 rfl
theorem dX10_isLine_195 : decode cX10_isLine 195 = .ok (.iconst 2, 1) := dz_at dqX10_isLine_p127 8 rfl
theorem dX10_isLine_196 : decode cX10_isLine 196 = .ok (.iadd, 1) := dz_at dqX10_isLine_p127 9 rfl
theorem dX10_isLine_197 : decode cX10_isLine 197 = .ok (.iconst 1, 1) := dz_at dqX10_isLine_p127 10 rfl
theorem dX10_isLine_198 : decode cX10_isLine 198 = .ok (.bipush 99, 2) := dz_at dqX10_isLine_p127 11 rfl
theorem dX10_isLine_200 : decode cX10_isLine 200 = .ok (.invokevirtual 192, 3) := dz_at dqX10_isLine_p127 12 rfl
theorem dX10_isLine_203 : decode cX10_isLine 203 = .ok (.ifCond .eq 7, 3) := dz_at dqX10_isLine_p127 13 rfl
set_option maxRecDepth 20000 in
theorem dqX10_isLine_p128 : dz_rn 206 (cX10_isLine.data.toList.drop 206) [(0, 9), (4, 0), (0, 8), (0, 12), (0, 4), (3, 1), (0, 12)] = some [(206, .iconst 1, 1), (207, .goto 4, 3), (210, .iconst 0, 1), (211, .ireturn, 1), (212, .aload_n 0, 1), (213, .invokevirtual 180, 3), (216, .ireturn, 1)] := by decide +kernel
theorem dX10_isLine_206 : decode cX10_isLine 206 = .ok (.iconst 1, 1) := dz_at dqX10_isLine_p128 0 rfl
theorem dX10_isLine_207 : decode cX10_isLine 207 = .ok (.goto 4, 3) := dz_at dqX10_isLine_p128 1 rfl
theorem dX10_isLine_210 : decode cX10_isLine 210 = .ok (.iconst 0, 1) := dz_at dqX10_isLine_p128 2 rfl
theorem dX10_isLine_211 : decode cX10_isLine 211 = .ok (.ireturn, 1) := dz_at dqX10_isLine_p128 3 rfl
theorem dX10_isLine_212 : decode cX10_isLine 212 = .ok (.aload_n 0, 1) := dz_at dqX10_isLine_p128 4 rfl
theorem dX10_isLine_213 : decode cX10_isLine 213 = .ok (.invokevirtual 180, 3) := dz_at dqX10_isLine_p128 5 rfl
theorem dX10_isLine_216 : decode cX10_isLine 216 = .ok (.ireturn, 1) := dz_at dqX10_isLine_p128 6 rfl
set_option maxRecDepth 20000 in
theorem ggX10_isRead_X10_isLine : GoodIn wsX10_isRead wsX10_isLine := goodIn_r _ [10, 11, 3, 12, 13, 14, 15, 16, 17, 18, 19, 9, 20, 1, 21, 22, 23, 24, 25, 5, 26, 27, 28, 29, 4, 30, 31, 32, 33, 34, 35, 36, 37, 38, 39, 40, 41, 42, 43, 44, 45, 46, 47, 48, 49, 50, 51, 52, 53, 54, 55, 56, 57, 58, 59, 60, 61, 62, 63, 64, 65, 66, 67, 68, 69, 70, 71, 72, 73, 74, 75, 76, 77, 78, 79, 80, 81, 82, 83, 84] rfl (by decide +kernel)
set_option maxRecDepth 20000 in
theorem gX10_isRead_X10_isLine : GoodIn wsX10_isRead (wsV RX10 204 RX10 yX10_isLine wsX10_isLine) := goodIn_app (goodIn_of _ (by decide +kernel)) ggX10_isRead_X10_isLine
set_option maxRecDepth 20000 in
theorem ggX10_isRead_X10_nextToken : GoodIn wsX10_isRead wsX10_nextToken := goodIn_r _ [20, 1, 21, 22, 23, 24, 25, 5, 3, 26, 27, 28, 29, 4, 30, 31, 9, 32, 46, 47, 48, 49, 50, 51, 52, 53, 54, 55, 56, 57, 58, 59, 60, 61, 62, 63, 64, 65, 66, 67, 68, 69, 70, 71, 72, 73, 74, 75, 76, 77, 78, 79, 80, 81, 82, 83, 84] rfl (by decide +kernel)
set_option maxRecDepth 20000 in
theorem gX10_isRead_X10_nextToken : GoodIn wsX10_isRead (wsV RX10 177 RX10 yX10_nextToken wsX10_nextToken) := goodIn_app (goodIn_of _ (by decide +kernel)) ggX10_isRead_X10_nextToken
set_option maxRecDepth 20000 in
theorem ggX10_isRead_X10_fails : GoodIn wsX10_isRead wsX10_fails := goodIn_r _ [40, 23, 41, 46, 47, 48, 49, 50, 51, 52, 53, 54, 55, 56, 57, 58, 59, 60, 61, 62, 63, 64, 65, 66, 67, 68, 69, 70, 71, 72, 73, 74, 75, 76, 77, 78, 79, 80, 81, 82, 83, 84] rfl (by decide +kernel)
set_option maxRecDepth 20000 in
theorem gX10_isRead_X10_fails : GoodIn wsX10_isRead (wsV RX10 180 RX10 yX10_fails wsX10_fails) := goodIn_app (goodIn_of _ (by decide +kernel)) ggX10_isRead_X10_fails
set_option maxRecDepth 20000 in
theorem dqX10_isRead_p120 : dz_rn 0 (cX10_isRead.data.toList.drop 0) [(0, 4), (0, 8), (3, 3), (0, 4), (0, 8), (3, 3), (0, 9), (0, 19), (0, 1), (4, 7), (0, 4), (0, 15), (0, 4), (3, 0)] = some [(0, .aload_n 0, 1), (1, .iconst 0, 1), (2, .putfield 146, 3), (5, .aload_n 0, 1), (6, .iconst 0, 1), (7, .putfield 201, 3), (10, .iconst 1, 1), (11, .istore_n 1, 1), (12, .iload_n 1, 1), (13, .ifCond .eq 61, 3), (16, .aload_n 0, 1), (17, .iconst 3, 1), (18, .aload_n 0, 1), (19, .getfield 201, 3)] := by decide +kernel
theorem dX10_isRead_0 : decode cX10_isRead 0 = .ok (.aload_n 0, 1) := dz_at dqX10_isRead_p120 0 rfl
theorem dX10_isRead_1 : decode cX10_isRead 1 = .ok (.iconst 0, 1) := dz_at dqX10_isRead_p120 1 rfl
theorem dX10_isRead_2 : decode cX10_isRead 2 = .ok (.putfield 146, 3) := dz_at dqX10_isRead_p120 2 rfl
theorem dX10_isRead_5 : decode cX10_isRead 5 = .ok (.aload_n 0, 1) := dz_at dqX10_isRead_p120 3 rfl
theorem dX10_isRead_6 : decode cX10_isRead 6 = .ok (.iconst 0, 1) := dz_at dqX10_isRead_p120 4 rfl
theorem dX10_isRead_7 : decode cX10_isRead 7 = .ok (.putfield 201, 3) := dz_at dqX10_isRead_p120 5 rfl
theorem dX10_isRead_10 : decode cX10_isRead 10 = .ok (.iconst 1, 1) := dz_at dqX10_isRead_p120 6 rfl
theorem dX10_isRead_11 : decode cX10_isRead 11 = .ok (.istore_n 1, 1) := dz_at dqX10_isRead_p120 7 rfl
theorem dX10_isRead_12 : decode cX10_isRead 12 = .ok (.iload_n 1, 1) := dz_at dqX10_isRead_p120 8 rfl
theorem dX10_isRead_13 : decode cX10_isRead 13 = .ok (.ifCond .eq 61, 3) := dz_at dqX10_isRead_p120 9 rfl
theorem dX10_isRead_16 : decode cX10_isRead 16 = .ok (.aload_n 0, 1) := dz_at dqX10_isRead_p120 10 rfl
theorem dX10_isRead_17 : decode cX10_isRead 17 = .ok (.iconst 3, 1) := dz_at dqX10_isRead_p120 11 rfl
theorem dX10_isRead_18 : decode cX10_isRead 18 = .ok (.aload_n 0, 1) := dz_at dqX10_isRead_p120 12 rfl
theorem dX10_isRead_19 : decode cX10_isRead 19 = .ok (.getfield 201, 3) := dz_at dqX10_isRead_p120 13 rfl
set_option maxRecDepth 20000 in
theorem dqX10_isRead_p121 : dz_rn 22 (cX10_isRead.data.toList.drop 22) [(0, 23), (3, 1), (4, 8), (0, 8), (0, 12), (0, 4), (0, 28), (3, 0), (0, 9), (0, 11), (3, 3), (0, 4), (3, 1), (0, 4)] = some [(22, .imul, 1), (23, .invokevirtual 204, 3), (26, .ifCond .ne 5, 3), (29, .iconst 0, 1), (30, .ireturn, 1), (31, .aload_n 0, 1), (32, .dup, 1), (33, .getfield 201, 3), (36, .iconst 1, 1), (37, .iadd, 1), (38, .putfield 201, 3), (41, .aload_n 0, 1), (42, .invokevirtual 177, 3), (45, .aload_n 0, 1)] := by decide +kernel
theorem dX10_isRead_22 : decode cX10_isRead 22 = .ok (.imul, 1) := dz_at dqX10_isRead_p121 0 rfl
theorem dX10_isRead_23 : decode cX10_isRead 23 = .ok (.invokevirtual 204, 3) := dz_at dqX10_isRead_p121 1 rfl
theorem dX10_isRead_26 : decode cX10_isRead 26 = .ok (.ifCond .ne 5, 3) := dz_at dqX10_isRead_p121 2 rfl
theorem dX10_isRead_29 : decode cX10_isRead 29 = .ok (.iconst 0, 1) := dz_at dqX10_isRead_p121 3 rfl
theorem dX10_isRead_30 : decode cX10_isRead 30 = .ok (.ireturn, 1) := dz_at dqX10_isRead_p121 4 rfl
theorem dX10_isRead_31 : decode cX10_isRead 31 = .ok (.aload_n 0, 1) := dz_at dqX10_isRead_p121 5 rfl
theorem dX10_isRead_32 : decode cX10_isRead 32 = .ok (.dup, 1) := dz_at dqX10_isRead_p121 6 rfl
theorem dX10_isRead_33 : decode cX10_isRead 33 = .ok (.getfield 201, 3) := dz_at dqX10_isRead_p121 7 rfl
theorem dX10_isRead_36 : decode cX10_isRead 36 = .ok (.iconst 1, 1) := dz_at dqX10_isRead_p121 8 rfl
theorem dX10_isRead_37 : decode cX10_isRead 37 = .ok (.iadd, 1) := dz_at dqX10_isRead_p121 9 rfl
theorem dX10_isRead_38 : decode cX10_isRead 38 = .ok (.putfield 201, 3) := dz_at dqX10_isRead_p121 10 rfl
theorem dX10_isRead_41 : decode cX10_isRead 41 = .ok (.aload_n 0, 1) := dz_at dqX10_isRead_p121 11 rfl
theorem dX10_isRead_42 : decode cX10_isRead 42 = .ok (.invokevirtual 177, 3) := dz_at dqX10_isRead_p121 12 rfl
theorem dX10_isRead_45 : decode cX10_isRead 45 = .ok (.aload_n 0, 1) := dz_at dqX10_isRead_p121 13 rfl
set_option maxRecDepth 20000 in
theorem dqX10_isRead_p122 : dz_rn 46 (cX10_isRead.data.toList.drop 46) [(3, 0), (3, 4), (0, 40), (4, 8), (0, 4), (3, 0), (2, 0), (4, 4), (0, 9), (4, 0), (0, 8), (0, 19), (4, 0), (0, 4)] = some [(46, .getfield 160, 3), (49, .ldc2_w 172, 3), (52, .lcmp, 1), (53, .ifCond .ne 16, 3), (56, .aload_n 0, 1), (57, .getfield 201, 3), (60, .bipush 10, 2), (62, .if_icmp .ge 7, 3), (65, .iconst 1, 1), (66, .goto 4, 3), (69, .iconst 0, 1), (70, .istore_n 1, 1), (71, .goto (-59), 3), (74, .aload_n 0, 1)] := by decide +kernel
theorem dX10_isRead_46 : decode cX10_isRead 46 = .ok (.getfield 160, 3) := dz_at dqX10_isRead_p122 0 rfl
theorem dX10_isRead_49 : decode cX10_isRead 49 = .ok (.ldc2_w 172, 3) := dz_at dqX10_isRead_p122 1 rfl
theorem dX10_isRead_52 : decode cX10_isRead 52 = .ok (.lcmp, 1) := dz_at dqX10_isRead_p122 2 rfl
theorem dX10_isRead_53 : decode cX10_isRead 53 = .ok (.ifCond .ne 16, 3) := dz_at dqX10_isRead_p122 3 rfl
theorem dX10_isRead_56 : decode cX10_isRead 56 = .ok (.aload_n 0, 1) := dz_at dqX10_isRead_p122 4 rfl
theorem dX10_isRead_57 : decode cX10_isRead 57 = .ok (.getfield 201, 3) := dz_at dqX10_isRead_p122 5 rfl
theorem dX10_isRead_60 : decode cX10_isRead 60 = .ok (.bipush 10, 2) := dz_at dqX10_isRead_p122 6 rfl
theorem dX10_isRead_62 : decode cX10_isRead 62 = .ok (.if_icmp .ge 7, 3) := dz_at dqX10_isRead_p122 7 rfl
theorem dX10_isRead_65 : decode cX10_isRead 65 = .ok (.iconst 1, 1) := dz_at dqX10_isRead_p122 8 rfl
theorem dX10_isRead_66 : decode cX10_isRead 66 = .ok (.goto 4, 3) := dz_at dqX10_isRead_p122 9 rfl
theorem dX10_isRead_69 : decode cX10_isRead 69 = .ok (.iconst 0, 1) := dz_at dqX10_isRead_p122 10 rfl
theorem dX10_isRead_70 : decode cX10_isRead 70 = .ok (.istore_n 1, 1) := dz_at dqX10_isRead_p122 11 rfl
theorem dX10_isRead_71 : decode cX10_isRead 71 = .ok (.goto (-59), 3) := dz_at dqX10_isRead_p122 12 rfl
theorem dX10_isRead_74 : decode cX10_isRead 74 = .ok (.aload_n 0, 1) := dz_at dqX10_isRead_p122 13 rfl
set_option maxRecDepth 20000 in
theorem dqX10_isRead_p123 : dz_rn 75 (cX10_isRead.data.toList.drop 75) [(3, 0), (3, 4), (0, 40), (4, 7), (0, 4), (3, 1), (4, 7), (0, 9), (4, 0), (0, 8), (0, 12)] = some [(75, .getfield 160, 3), (78, .ldc2_w 158, 3), (81, .lcmp, 1), (82, .ifCond .eq 10, 3), (85, .aload_n 0, 1), (86, .invokevirtual 180, 3), (89, .ifCond .eq 7, 3), (92, .iconst 1, 1), (93, .goto 4, 3), (96, .iconst 0, 1), (97, .ireturn, 1)] := by decide +kernel
theorem dX10_isRead_75 : decode cX10_isRead 75 = .ok (.getfield 160, 3) := dz_at dqX10_isRead_p123 0 rfl
theorem dX10_isRead_78 : decode cX10_isRead 78 = .ok (.ldc2_w 158, 3) := dz_at dqX10_isRead_p123 1 rfl
theorem dX10_isRead_81 : decode cX10_isRead 81 = .ok (.lcmp, 1) := dz_at dqX10_isRead_p123 2 rfl
theorem dX10_isRead_82 : decode cX10_isRead 82 = .ok (.ifCond .eq 10, 3) := dz_at dqX10_isRead_p123 3 rfl
theorem dX10_isRead_85 : decode cX10_isRead 85 = .ok (.aload_n 0, 1) := dz_at dqX10_isRead_p123 4 rfl
theorem dX10_isRead_86 : decode cX10_isRead 86 = .ok (.invokevirtual 180, 3) := dz_at dqX10_isRead_p123 5 rfl
theorem dX10_isRead_89 : decode cX10_isRead 89 = .ok (.ifCond .eq 7, 3) := dz_at dqX10_isRead_p123 6 rfl
theorem dX10_isRead_92 : decode cX10_isRead 92 = .ok (.iconst 1, 1) := dz_at dqX10_isRead_p123 7 rfl
theorem dX10_isRead_93 : decode cX10_isRead 93 = .ok (.goto 4, 3) := dz_at dqX10_isRead_p123 8 rfl
theorem dX10_isRead_96 : decode cX10_isRead 96 = .ok (.iconst 0, 1) := dz_at dqX10_isRead_p123 9 rfl
theorem dX10_isRead_97 : decode cX10_isRead 97 = .ok (.ireturn, 1) := dz_at dqX10_isRead_p123 10 rfl
set_option maxRecDepth 20000 in
theorem ggX10_fault_X10_isRead : GoodIn wsX10_fault wsX10_isRead := goodIn_r _ [6, 7, 8, 9, 10, 11, 12, 13, 14, 5, 15, 16, 17, 18, 19, 20, 21, 22, 23, 24, 25, 26, 27, 28, 29, 30, 31, 32, 33, 34, 35, 36, 37, 38, 39, 40, 41, 42, 43, 44, 45, 1, 46, 47, 48, 49, 50, 51, 52, 53, 54, 55, 56, 57, 58, 59, 60, 61, 62, 63, 64, 65, 66, 67, 68, 69, 70, 71, 72, 73, 74, 75, 76, 77, 78, 79, 80, 81, 82, 83, 84, 85, 86, 87, 88] rfl (by decide +kernel)
set_option maxRecDepth 20000 in
theorem gX10_fault_X10_isRead : GoodIn wsX10_fault (wsV RX10 207 RX10 yX10_isRead wsX10_isRead) := goodIn_app (goodIn_of _ (by decide +kernel)) ggX10_fault_X10_isRead
set_option maxRecDepth 20000 in
theorem dqX10_fault_p120 : dz_rn 0 (cX10_fault.data.toList.drop 0) [(0, 4), (3, 1), (4, 7), (0, 13), (4, 0), (0, 4), (3, 0), (0, 12)] = some [(0, .aload_n 0, 1), (1, .invokevirtual 207, 3), (4, .ifCond .eq 7, 3), (7, .iconst (-1), 1), (8, .goto 7, 3), (11, .aload_n 0, 1), (12, .getfield 174, 3), (15, .ireturn, 1)] := by decide +kernel
theorem dX10_fault_0 : decode cX10_fault 0 = .ok (.aload_n 0, 1) := dz_at dqX10_fault_p120 0 rfl
theorem dX10_fault_1 : decode cX10_fault 1 = .ok (.invokevirtual 207, 3) := dz_at dqX10_fault_p120 1 rfl
theorem dX10_fault_4 : decode cX10_fault 4 = .ok (.ifCond .eq 7, 3) := dz_at dqX10_fault_p120 2 rfl
theorem dX10_fault_7 : decode cX10_fault 7 = .ok (.iconst (-1), 1) := dz_at dqX10_fault_p120 3 rfl
theorem dX10_fault_8 : decode cX10_fault 8 = .ok (.goto 7, 3) := dz_at dqX10_fault_p120 4 rfl
theorem dX10_fault_11 : decode cX10_fault 11 = .ok (.aload_n 0, 1) := dz_at dqX10_fault_p120 5 rfl
theorem dX10_fault_12 : decode cX10_fault 12 = .ok (.getfield 174, 3) := dz_at dqX10_fault_p120 6 rfl
theorem dX10_fault_15 : decode cX10_fault 15 = .ok (.ireturn, 1) := dz_at dqX10_fault_p120 7 rfl
set_option maxRecDepth 20000 in
theorem ggX10_rules_X10_isRead : GoodIn wsX10_rules wsX10_isRead := goodIn_r _ [10, 11, 3, 12, 13, 14, 15, 16, 17, 9, 18, 2, 19, 20, 21, 22, 23, 24, 25, 26, 27, 5, 28, 29, 30, 31, 32, 33, 34, 35, 36, 37, 38, 39, 40, 41, 42, 43, 44, 45, 46, 47, 48, 49, 50, 51, 52, 53, 54, 55, 56, 57, 58, 59, 60, 61, 62, 63, 64, 65, 66, 67, 68, 69, 70, 71, 72, 73, 74, 75, 76, 77, 78, 79, 80, 81, 82, 83, 84, 85, 86, 87, 88, 89, 90] rfl (by decide +kernel)
set_option maxRecDepth 20000 in
theorem gX10_rules_X10_isRead : GoodIn wsX10_rules (wsV RX10 207 RX10 yX10_isRead wsX10_isRead) := goodIn_app (goodIn_of _ (by decide +kernel)) ggX10_rules_X10_isRead
set_option maxRecDepth 20000 in
theorem dqX10_rules_p120 : dz_rn 0 (cX10_rules.data.toList.drop 0) [(0, 4), (3, 1), (4, 8), (2, 0), (0, 12), (0, 8), (0, 19), (0, 1), (2, 0), (4, 4), (0, 4), (3, 0), (0, 1), (0, 4)] = some [(0, .aload_n 0, 1), (1, .invokevirtual 207, 3), (4, .ifCond .ne 6, 3), (7, .bipush (-4), 2), (9, .ireturn, 1), (10, .iconst 0, 1), (11, .istore_n 1, 1), (12, .iload_n 1, 1), (13, .bipush 30, 2), (15, .if_icmp .ge 21, 3), (18, .aload_n 0, 1), (19, .getfield 68, 3), (22, .iload_n 1, 1), (23, .aload_n 0, 1)] := by decide +kernel
theorem dX10_rules_0 : decode cX10_rules 0 = .ok (.aload_n 0, 1) := dz_at dqX10_rules_p120 0 rfl
theorem dX10_rules_1 : decode cX10_rules 1 = .ok (.invokevirtual 207, 3) := dz_at dqX10_rules_p120 1 rfl
theorem dX10_rules_4 : decode cX10_rules 4 = .ok (.ifCond .ne 6, 3) := dz_at dqX10_rules_p120 2 rfl
theorem dX10_rules_7 : decode cX10_rules 7 = .ok (.bipush (-4), 2) := dz_at dqX10_rules_p120 3 rfl
theorem dX10_rules_9 : decode cX10_rules 9 = .ok (.ireturn, 1) := dz_at dqX10_rules_p120 4 rfl
theorem dX10_rules_10 : decode cX10_rules 10 = .ok (.iconst 0, 1) := dz_at dqX10_rules_p120 5 rfl
theorem dX10_rules_11 : decode cX10_rules 11 = .ok (.istore_n 1, 1) := dz_at dqX10_rules_p120 6 rfl
theorem dX10_rules_12 : decode cX10_rules 12 = .ok (.iload_n 1, 1) := dz_at dqX10_rules_p120 7 rfl
theorem dX10_rules_13 : decode cX10_rules 13 = .ok (.bipush 30, 2) := dz_at dqX10_rules_p120 8 rfl
theorem dX10_rules_15 : decode cX10_rules 15 = .ok (.if_icmp .ge 21, 3) := dz_at dqX10_rules_p120 9 rfl
theorem dX10_rules_18 : decode cX10_rules 18 = .ok (.aload_n 0, 1) := dz_at dqX10_rules_p120 10 rfl
theorem dX10_rules_19 : decode cX10_rules 19 = .ok (.getfield 68, 3) := dz_at dqX10_rules_p120 11 rfl
theorem dX10_rules_22 : decode cX10_rules 22 = .ok (.iload_n 1, 1) := dz_at dqX10_rules_p120 12 rfl
theorem dX10_rules_23 : decode cX10_rules 23 = .ok (.aload_n 0, 1) := dz_at dqX10_rules_p120 13 rfl
set_option maxRecDepth 20000 in
theorem dqX10_rules_p121 : dz_rn 24 (cX10_rules.data.toList.drop 24) [(3, 0), (0, 1), (0, 10), (0, 22), (5, 0), (4, 0), (0, 4), (0, 4), (3, 0), (3, 3), (0, 4), (0, 8), (3, 3), (0, 4)] = some [(24, .getfield 65, 3), (27, .iload_n 1, 1), (28, .iaload, 1), (29, .iastore, 1), (30, .iinc 1 1, 3), (33, .goto (-21), 3), (36, .aload_n 0, 1), (37, .aload_n 0, 1), (38, .getfield 201, 3), (41, .putfield 210, 3), (44, .aload_n 0, 1), (45, .iconst 0, 1), (46, .putfield 141, 3), (49, .aload_n 0, 1)] := by decide +kernel
theorem dX10_rules_24 : decode cX10_rules 24 = .ok (.getfield 65, 3) := dz_at dqX10_rules_p121 0 rfl
theorem dX10_rules_27 : decode cX10_rules 27 = .ok (.iload_n 1, 1) := dz_at dqX10_rules_p121 1 rfl
theorem dX10_rules_28 : decode cX10_rules 28 = .ok (.iaload, 1) := dz_at dqX10_rules_p121 2 rfl
theorem dX10_rules_29 : decode cX10_rules 29 = .ok (.iastore, 1) := dz_at dqX10_rules_p121 3 rfl
theorem dX10_rules_30 : decode cX10_rules 30 = .ok (.iinc 1 1, 3) := dz_at dqX10_rules_p121 4 rfl
theorem dX10_rules_33 : decode cX10_rules 33 = .ok (.goto (-21), 3) := dz_at dqX10_rules_p121 5 rfl
theorem dX10_rules_36 : decode cX10_rules 36 = .ok (.aload_n 0, 1) := dz_at dqX10_rules_p121 6 rfl
theorem dX10_rules_37 : decode cX10_rules 37 = .ok (.aload_n 0, 1) := dz_at dqX10_rules_p121 7 rfl
theorem dX10_rules_38 : decode cX10_rules 38 = .ok (.getfield 201, 3) := dz_at dqX10_rules_p121 8 rfl
theorem dX10_rules_41 : decode cX10_rules 41 = .ok (.putfield 210, 3) := dz_at dqX10_rules_p121 9 rfl
theorem dX10_rules_44 : decode cX10_rules 44 = .ok (.aload_n 0, 1) := dz_at dqX10_rules_p121 10 rfl
theorem dX10_rules_45 : decode cX10_rules 45 = .ok (.iconst 0, 1) := dz_at dqX10_rules_p121 11 rfl
theorem dX10_rules_46 : decode cX10_rules 46 = .ok (.putfield 141, 3) := dz_at dqX10_rules_p121 12 rfl
theorem dX10_rules_49 : decode cX10_rules 49 = .ok (.aload_n 0, 1) := dz_at dqX10_rules_p121 13 rfl
set_option maxRecDepth 20000 in
theorem dqX10_rules_p122 : dz_rn 50 (cX10_rules.data.toList.drop 50) [(3, 0), (0, 12)] = some [(50, .getfield 210, 3), (53, .ireturn, 1)] := by decide +kernel
theorem dX10_rules_50 : decode cX10_rules 50 = .ok (.getfield 210, 3) := dz_at dqX10_rules_p122 0 rfl
theorem dX10_rules_53 : decode cX10_rules 53 = .ok (.ireturn, 1) := dz_at dqX10_rules_p122 1 rfl
end
section
set_option maxRecDepth 20000 in
theorem dqX10_lastOf_p130 : dz_rn 0 (cX10_lastOf.data.toList.drop 0) [(0, 3), (1, 1), (0, 8), (1, 1), (1, 0), (0, 4), (3, 0), (4, 4), (0, 4), (3, 0), (0, 15), (1, 0), (0, 23), (0, 10)] = some [(0, .iload_n 3, 1), (1, .istore 4, 2), (3, .iconst 0, 1), (4, .istore 5, 2), (6, .iload 5, 2), (8, .aload_n 0, 1), (9, .getfield 210, 3), (12, .if_icmp .ge 55, 3), (15, .aload_n 0, 1), (16, .getfield 68, 3), (19, .iconst 3, 1), (20, .iload 5, 2), (22, .imul, 1), (23, .iaload, 1)] := by decide +kernel
theorem dX10_lastOf_0 : decode cX10_lastOf 0 = .ok (.iload_n 3, 1) := dz_at dqX10_lastOf_p130 0 rfl
theorem dX10_lastOf_1 : decode cX10_lastOf 1 = .ok (.istore 4, 2) := dz_at dqX10_lastOf_p130 1 rfl
theorem dX10_lastOf_3 : decode cX10_lastOf 3 = .ok (.iconst 0, 1) := dz_at dqX10_lastOf_p130 2 rfl
theorem dX10_lastOf_4 : decode cX10_lastOf 4 = .ok (.istore 5, 2) := dz_at dqX10_lastOf_p130 3 rfl
theorem dX10_lastOf_6 : decode cX10_lastOf 6 = .ok (.iload 5, 2) := dz_at dqX10_lastOf_p130 4 rfl
theorem dX10_lastOf_8 : decode cX10_lastOf 8 = .ok (.aload_n 0, 1) := dz_at dqX10_lastOf_p130 5 rfl
theorem dX10_lastOf_9 : decode cX10_lastOf 9 = .ok (.getfield 210, 3) := dz_at dqX10_lastOf_p130 6 rfl
theorem dX10_lastOf_12 : decode cX10_lastOf 12 = .ok (.if_icmp .ge 55, 3) := dz_at dqX10_lastOf_p130 7 rfl
theorem dX10_lastOf_15 : decode cX10_lastOf 15 = .ok (.aload_n 0, 1) := dz_at dqX10_lastOf_p130 8 rfl
theorem dX10_lastOf_16 : decode cX10_lastOf 16 = .ok (.getfield 68, 3) := dz_at dqX10_lastOf_p130 9 rfl
theorem dX10_lastOf_19 : decode cX10_lastOf 19 = .ok (.iconst 3, 1) := dz_at dqX10_lastOf_p130 10 rfl
theorem dX10_lastOf_20 : decode cX10_lastOf 20 = .ok (.iload 5, 2) := dz_at dqX10_lastOf_p130 11 rfl
theorem dX10_lastOf_22 : decode cX10_lastOf 22 = .ok (.imul, 1) := dz_at dqX10_lastOf_p130 12 rfl
theorem dX10_lastOf_23 : decode cX10_lastOf 23 = .ok (.iaload, 1) := dz_at dqX10_lastOf_p130 13 rfl
set_option maxRecDepth 20000 in
theorem dqX10_lastOf_p131 : dz_rn 24 (cX10_lastOf.data.toList.drop 24) [(0, 1), (4, 2), (0, 4), (3, 0), (0, 15), (1, 0), (0, 23), (0, 9), (0, 11), (0, 10), (0, 2), (4, 2), (0, 4), (3, 0)] = some [(24, .iload_n 1, 1), (25, .if_icmp .ne 32, 3), (28, .aload_n 0, 1), (29, .getfield 68, 3), (32, .iconst 3, 1), (33, .iload 5, 2), (35, .imul, 1), (36, .iconst 1, 1), (37, .iadd, 1), (38, .iaload, 1), (39, .iload_n 2, 1), (40, .if_icmp .ne 17, 3), (43, .aload_n 0, 1), (44, .getfield 68, 3)] := by decide +kernel
theorem dX10_lastOf_24 : decode cX10_lastOf 24 = .ok (.iload_n 1, 1) := dz_at dqX10_lastOf_p131 0 rfl
theorem dX10_lastOf_25 : decode cX10_lastOf 25 = .ok (.if_icmp .ne 32, 3) := dz_at dqX10_lastOf_p131 1 rfl
theorem dX10_lastOf_28 : decode cX10_lastOf 28 = .ok (.aload_n 0, 1) := dz_at dqX10_lastOf_p131 2 rfl
theorem dX10_lastOf_29 : decode cX10_lastOf 29 = .ok (.getfield 68, 3) := dz_at dqX10_lastOf_p131 3 rfl
theorem dX10_lastOf_32 : decode cX10_lastOf 32 = .ok (.iconst 3, 1) := dz_at dqX10_lastOf_p131 4 rfl
theorem dX10_lastOf_33 : decode cX10_lastOf 33 = .ok (.iload 5, 2) := dz_at dqX10_lastOf_p131 5 rfl
theorem dX10_lastOf_35 : decode cX10_lastOf 35 = .ok (.imul, 1) := dz_at dqX10_lastOf_p131 6 rfl
theorem dX10_lastOf_36 : decode cX10_lastOf 36 = .ok (.iconst 1, 1) := dz_at dqX10_lastOf_p131 7 rfl
theorem dX10_lastOf_37 : decode cX10_lastOf 37 = .ok (.iadd, 1) := dz_at dqX10_lastOf_p131 8 rfl
theorem dX10_lastOf_38 : decode cX10_lastOf 38 = .ok (.iaload, 1) := dz_at dqX10_lastOf_p131 9 rfl
theorem dX10_lastOf_39 : decode cX10_lastOf 39 = .ok (.iload_n 2, 1) := dz_at dqX10_lastOf_p131 10 rfl
theorem dX10_lastOf_40 : decode cX10_lastOf 40 = .ok (.if_icmp .ne 17, 3) := dz_at dqX10_lastOf_p131 11 rfl
theorem dX10_lastOf_43 : decode cX10_lastOf 43 = .ok (.aload_n 0, 1) := dz_at dqX10_lastOf_p131 12 rfl
theorem dX10_lastOf_44 : decode cX10_lastOf 44 = .ok (.getfield 68, 3) := dz_at dqX10_lastOf_p131 13 rfl
set_option maxRecDepth 20000 in
theorem dqX10_lastOf_p132 : dz_rn 47 (cX10_lastOf.data.toList.drop 47) [(0, 15), (1, 0), (0, 23), (0, 14), (0, 11), (0, 10), (4, 0), (1, 0), (1, 1), (5, 0), (4, 0), (1, 0), (0, 12)] = some [(47, .iconst 3, 1), (48, .iload 5, 2), (50, .imul, 1), (51, .iconst 2, 1), (52, .iadd, 1), (53, .iaload, 1), (54, .goto 5, 3), (57, .iload 4, 2), (59, .istore 4, 2), (61, .iinc 5 1, 3), (64, .goto (-58), 3), (67, .iload 4, 2), (69, .ireturn, 1)] := by decide +kernel
theorem dX10_lastOf_47 : decode cX10_lastOf 47 = .ok (.iconst 3, 1) := dz_at dqX10_lastOf_p132 0 rfl
theorem dX10_lastOf_48 : decode cX10_lastOf 48 = .ok (.iload 5, 2) := dz_at dqX10_lastOf_p132 1 rfl
theorem dX10_lastOf_50 : decode cX10_lastOf 50 = .ok (.imul, 1) := dz_at dqX10_lastOf_p132 2 rfl
theorem dX10_lastOf_51 : decode cX10_lastOf 51 = .ok (.iconst 2, 1) := dz_at dqX10_lastOf_p132 3 rfl
theorem dX10_lastOf_52 : decode cX10_lastOf 52 = .ok (.iadd, 1) := dz_at dqX10_lastOf_p132 4 rfl
theorem dX10_lastOf_53 : decode cX10_lastOf 53 = .ok (.iaload, 1) := dz_at dqX10_lastOf_p132 5 rfl
theorem dX10_lastOf_54 : decode cX10_lastOf 54 = .ok (.goto 5, 3) := dz_at dqX10_lastOf_p132 6 rfl
theorem dX10_lastOf_57 : decode cX10_lastOf 57 = .ok (.iload 4, 2) := dz_at dqX10_lastOf_p132 7 rfl
theorem dX10_lastOf_59 : decode cX10_lastOf 59 = .ok (.istore 4, 2) := dz_at dqX10_lastOf_p132 8 rfl
theorem dX10_lastOf_61 : decode cX10_lastOf 61 = .ok (.iinc 5 1, 3) := dz_at dqX10_lastOf_p132 9 rfl
theorem dX10_lastOf_64 : decode cX10_lastOf 64 = .ok (.goto (-58), 3) := dz_at dqX10_lastOf_p132 10 rfl
theorem dX10_lastOf_67 : decode cX10_lastOf 67 = .ok (.iload 4, 2) := dz_at dqX10_lastOf_p132 11 rfl
theorem dX10_lastOf_69 : decode cX10_lastOf 69 = .ok (.ireturn, 1) := dz_at dqX10_lastOf_p132 12 rfl
set_option maxRecDepth 20000 in
theorem dqX10_standIn_p130 : dz_rn 0 (cX10_standIn.data.toList.drop 0) [(0, 8), (0, 20), (2, 0), (0, 1), (0, 23), (0, 21), (0, 3), (2, 0), (0, 1), (0, 23), (2, 0), (0, 11), (4, 4), (0, 2)] = some [(0, .iconst 0, 1), (1, .istore_n 2, 1), (2, .bipush 6, 2), (4, .iload_n 1, 1), (5, .imul, 1), (6, .istore_n 3, 1), (7, .iload_n 3, 1), (8, .bipush 6, 2), (10, .iload_n 1, 1), (11, .imul, 1), (12, .bipush 6, 2), (14, .iadd, 1), (15, .if_icmp .ge 27, 3), (18, .iload_n 2, 1)] := by decide +kernel
theorem dX10_standIn_0 : decode cX10_standIn 0 = .ok (.iconst 0, 1) := dz_at dqX10_standIn_p130 0 rfl
theorem dX10_standIn_1 : decode cX10_standIn 1 = .ok (.istore_n 2, 1) := dz_at dqX10_standIn_p130 1 rfl
theorem dX10_standIn_2 : decode cX10_standIn 2 = .ok (.bipush 6, 2) := dz_at dqX10_standIn_p130 2 rfl
theorem dX10_standIn_4 : decode cX10_standIn 4 = .ok (.iload_n 1, 1) := dz_at dqX10_standIn_p130 3 rfl
theorem dX10_standIn_5 : decode cX10_standIn 5 = .ok (.imul, 1) := dz_at dqX10_standIn_p130 4 rfl
theorem dX10_standIn_6 : decode cX10_standIn 6 = .ok (.istore_n 3, 1) := dz_at dqX10_standIn_p130 5 rfl
theorem dX10_standIn_7 : decode cX10_standIn 7 = .ok (.iload_n 3, 1) := dz_at dqX10_standIn_p130 6 rfl
theorem dX10_standIn_8 : decode cX10_standIn 8 = .ok (.bipush 6, 2) := dz_at dqX10_standIn_p130 7 rfl
theorem dX10_standIn_10 : decode cX10_standIn 10 = .ok (.iload_n 1, 1) := dz_at dqX10_standIn_p130 8 rfl
theorem dX10_standIn_11 : decode cX10_standIn 11 = .ok (.imul, 1) := dz_at dqX10_standIn_p130 9 rfl
theorem dX10_standIn_12 : decode cX10_standIn 12 = .ok (.bipush 6, 2) := dz_at dqX10_standIn_p130 10 rfl
theorem dX10_standIn_14 : decode cX10_standIn 14 = .ok (.iadd, 1) := dz_at dqX10_standIn_p130 11 rfl
theorem dX10_standIn_15 : decode cX10_standIn 15 = .ok (.if_icmp .ge 27, 3) := dz_at dqX10_standIn_p130 12 rfl
theorem dX10_standIn_18 : decode cX10_standIn 18 = .ok (.iload_n 2, 1) := dz_at dqX10_standIn_p130 13 rfl
set_option maxRecDepth 20000 in
theorem dqX10_standIn_p131 : dz_rn 19 (cX10_standIn.data.toList.drop 19) [(0, 4), (3, 0), (0, 3), (0, 10), (0, 13), (4, 2), (0, 8), (4, 0), (0, 9), (0, 11), (0, 20), (5, 0), (4, 0), (0, 2)] = some [(19, .aload_n 0, 1), (20, .getfield 32, 3), (23, .iload_n 3, 1), (24, .iaload, 1), (25, .iconst (-1), 1), (26, .if_icmp .ne 7, 3), (29, .iconst 0, 1), (30, .goto 4, 3), (33, .iconst 1, 1), (34, .iadd, 1), (35, .istore_n 2, 1), (36, .iinc 3 1, 3), (39, .goto (-32), 3), (42, .iload_n 2, 1)] := by decide +kernel
theorem dX10_standIn_19 : decode cX10_standIn 19 = .ok (.aload_n 0, 1) := dz_at dqX10_standIn_p131 0 rfl
theorem dX10_standIn_20 : decode cX10_standIn 20 = .ok (.getfield 32, 3) := dz_at dqX10_standIn_p131 1 rfl
theorem dX10_standIn_23 : decode cX10_standIn 23 = .ok (.iload_n 3, 1) := dz_at dqX10_standIn_p131 2 rfl
theorem dX10_standIn_24 : decode cX10_standIn 24 = .ok (.iaload, 1) := dz_at dqX10_standIn_p131 3 rfl
theorem dX10_standIn_25 : decode cX10_standIn 25 = .ok (.iconst (-1), 1) := dz_at dqX10_standIn_p131 4 rfl
theorem dX10_standIn_26 : decode cX10_standIn 26 = .ok (.if_icmp .ne 7, 3) := dz_at dqX10_standIn_p131 5 rfl
theorem dX10_standIn_29 : decode cX10_standIn 29 = .ok (.iconst 0, 1) := dz_at dqX10_standIn_p131 6 rfl
theorem dX10_standIn_30 : decode cX10_standIn 30 = .ok (.goto 4, 3) := dz_at dqX10_standIn_p131 7 rfl
theorem dX10_standIn_33 : decode cX10_standIn 33 = .ok (.iconst 1, 1) := dz_at dqX10_standIn_p131 8 rfl
theorem dX10_standIn_34 : decode cX10_standIn 34 = .ok (.iadd, 1) := dz_at dqX10_standIn_p131 9 rfl
theorem dX10_standIn_35 : decode cX10_standIn 35 = .ok (.istore_n 2, 1) := dz_at dqX10_standIn_p131 10 rfl
theorem dX10_standIn_36 : decode cX10_standIn 36 = .ok (.iinc 3 1, 3) := dz_at dqX10_standIn_p131 11 rfl
theorem dX10_standIn_39 : decode cX10_standIn 39 = .ok (.goto (-32), 3) := dz_at dqX10_standIn_p131 12 rfl
theorem dX10_standIn_42 : decode cX10_standIn 42 = .ok (.iload_n 2, 1) := dz_at dqX10_standIn_p131 13 rfl
theorem dX10_standIn_43 : decode cX10_standIn 43 = .ok (.ireturn, 1) := by decide +kernel
set_option maxRecDepth 20000 in
theorem ggX10_isTooLike_X10_likeness : GoodIn wsX10_isTooLike wsX10_likeness := goodIn_r _ [6, 7, 8, 9, 10, 11, 12, 13, 14, 15, 16, 17, 18, 19, 20, 21, 22, 23, 24, 25, 26, 27, 28, 29, 30, 31, 32, 33, 34, 35, 36, 37, 38, 39, 40, 41, 42, 43, 44, 45, 46] rfl (by decide +kernel)
set_option maxRecDepth 20000 in
theorem gX10_isTooLike_X10_likeness : GoodIn wsX10_isTooLike (wsV RX10 115 RX10 yX10_likeness wsX10_likeness) := goodIn_app (goodIn_of _ (by decide +kernel)) ggX10_isTooLike_X10_likeness
set_option maxRecDepth 20000 in
theorem dqX10_isTooLike_p130 : dz_rn 0 (cX10_isTooLike.data.toList.drop 0) [(0, 4), (3, 0), (0, 2), (0, 10), (0, 13), (4, 1), (0, 4), (0, 4), (3, 0), (0, 2), (0, 10), (0, 1), (3, 1), (0, 3)] = some [(0, .aload_n 0, 1), (1, .getfield 32, 3), (4, .iload_n 2, 1), (5, .iaload, 1), (6, .iconst (-1), 1), (7, .if_icmp .eq 22, 3), (10, .aload_n 0, 1), (11, .aload_n 0, 1), (12, .getfield 32, 3), (15, .iload_n 2, 1), (16, .iaload, 1), (17, .iload_n 1, 1), (18, .invokevirtual 115, 3), (21, .iload_n 3, 1)] := by decide +kernel
theorem dX10_isTooLike_0 : decode cX10_isTooLike 0 = .ok (.aload_n 0, 1) := dz_at dqX10_isTooLike_p130 0 rfl
theorem dX10_isTooLike_1 : decode cX10_isTooLike 1 = .ok (.getfield 32, 3) := dz_at dqX10_isTooLike_p130 1 rfl
theorem dX10_isTooLike_4 : decode cX10_isTooLike 4 = .ok (.iload_n 2, 1) := dz_at dqX10_isTooLike_p130 2 rfl
theorem dX10_isTooLike_5 : decode cX10_isTooLike 5 = .ok (.iaload, 1) := dz_at dqX10_isTooLike_p130 3 rfl
theorem dX10_isTooLike_6 : decode cX10_isTooLike 6 = .ok (.iconst (-1), 1) := dz_at dqX10_isTooLike_p130 4 rfl
theorem dX10_isTooLike_7 : decode cX10_isTooLike 7 = .ok (.if_icmp .eq 22, 3) := dz_at dqX10_isTooLike_p130 5 rfl
theorem dX10_isTooLike_10 : decode cX10_isTooLike 10 = .ok (.aload_n 0, 1) := dz_at dqX10_isTooLike_p130 6 rfl
theorem dX10_isTooLike_11 : decode cX10_isTooLike 11 = .ok (.aload_n 0, 1) := dz_at dqX10_isTooLike_p130 7 rfl
theorem dX10_isTooLike_12 : decode cX10_isTooLike 12 = .ok (.getfield 32, 3) := dz_at dqX10_isTooLike_p130 8 rfl
theorem dX10_isTooLike_15 : decode cX10_isTooLike 15 = .ok (.iload_n 2, 1) := dz_at dqX10_isTooLike_p130 9 rfl
theorem dX10_isTooLike_16 : decode cX10_isTooLike 16 = .ok (.iaload, 1) := dz_at dqX10_isTooLike_p130 10 rfl
theorem dX10_isTooLike_17 : decode cX10_isTooLike 17 = .ok (.iload_n 1, 1) := dz_at dqX10_isTooLike_p130 11 rfl
theorem dX10_isTooLike_18 : decode cX10_isTooLike 18 = .ok (.invokevirtual 115, 3) := dz_at dqX10_isTooLike_p130 12 rfl
theorem dX10_isTooLike_21 : decode cX10_isTooLike 21 = .ok (.iload_n 3, 1) := dz_at dqX10_isTooLike_p130 13 rfl
set_option maxRecDepth 20000 in
theorem dqX10_isTooLike_p131 : dz_rn 22 (cX10_isTooLike.data.toList.drop 22) [(4, 6), (0, 9), (4, 0), (0, 8), (0, 12)] = some [(22, .if_icmp .le 7, 3), (25, .iconst 1, 1), (26, .goto 4, 3), (29, .iconst 0, 1), (30, .ireturn, 1)] := by decide +kernel
theorem dX10_isTooLike_22 : decode cX10_isTooLike 22 = .ok (.if_icmp .le 7, 3) := dz_at dqX10_isTooLike_p131 0 rfl
theorem dX10_isTooLike_25 : decode cX10_isTooLike 25 = .ok (.iconst 1, 1) := dz_at dqX10_isTooLike_p131 1 rfl
theorem dX10_isTooLike_26 : decode cX10_isTooLike 26 = .ok (.goto 4, 3) := dz_at dqX10_isTooLike_p131 2 rfl
theorem dX10_isTooLike_29 : decode cX10_isTooLike 29 = .ok (.iconst 0, 1) := dz_at dqX10_isTooLike_p131 3 rfl
theorem dX10_isTooLike_30 : decode cX10_isTooLike 30 = .ok (.ireturn, 1) := dz_at dqX10_isTooLike_p131 4 rfl
set_option maxRecDepth 20000 in
theorem ggX10_bars_X10_isThing : GoodIn wsX10_bars wsX10_isThing := goodIn_r _ [6, 7, 8, 5, 9] rfl (by decide +kernel)
set_option maxRecDepth 20000 in
theorem gX10_bars_X10_isThing : GoodIn wsX10_bars (va_wsS RX10 112 yX10_isThing wsX10_isThing) := goodIn_app (goodIn_of _ (by decide +kernel)) ggX10_bars_X10_isThing
set_option maxRecDepth 20000 in
theorem ggX10_bars_X10_isCorner : GoodIn wsX10_bars wsX10_isCorner := goodIn_r _ [12, 7, 8, 5, 9] rfl (by decide +kernel)
set_option maxRecDepth 20000 in
theorem gX10_bars_X10_isCorner : GoodIn wsX10_bars (va_wsS RX10 118 yX10_isCorner wsX10_isCorner) := goodIn_app (goodIn_of _ (by decide +kernel)) ggX10_bars_X10_isCorner
set_option maxRecDepth 20000 in
theorem ggX10_bars_X10_standIn : GoodIn wsX10_bars wsX10_standIn := goodIn_r _ [16, 17, 33, 34, 35, 36, 37, 38, 39, 40, 41, 42, 43, 44, 45, 46, 47, 48, 49, 50, 51, 52, 53, 54, 55, 56, 57, 58, 59, 60, 61, 62, 63, 64, 65, 66, 67, 68, 69, 70, 71] rfl (by decide +kernel)
set_option maxRecDepth 20000 in
theorem gX10_bars_X10_standIn : GoodIn wsX10_bars (wsV RX10 213 RX10 yX10_standIn wsX10_standIn) := goodIn_app (goodIn_of _ (by decide +kernel)) ggX10_bars_X10_standIn
set_option maxRecDepth 20000 in
theorem ggX10_bars_X10_lastOf : GoodIn wsX10_bars wsX10_lastOf := goodIn_r _ [21, 22, 23, 33, 34, 35, 36, 37, 38, 39, 40, 41, 42, 43, 44, 45, 46, 47, 48, 49, 50, 51, 52, 53, 54, 55, 56, 57, 58, 59, 60, 61, 62, 63, 64, 65, 66, 67, 68, 69, 70, 71] rfl (by decide +kernel)
set_option maxRecDepth 20000 in
theorem gX10_bars_X10_lastOf : GoodIn wsX10_bars (wsV RX10 216 RX10 yX10_lastOf wsX10_lastOf) := goodIn_app (goodIn_of _ (by decide +kernel)) ggX10_bars_X10_lastOf
set_option maxRecDepth 20000 in
theorem ggX10_bars_X10_isTooLike : GoodIn wsX10_bars wsX10_isTooLike := goodIn_r _ [27, 17, 28, 29, 30, 5, 31, 32, 33, 34, 35, 36, 37, 38, 39, 40, 41, 42, 43, 44, 45, 46, 47, 48, 49, 50, 51, 52, 53, 54, 55, 56, 57, 58, 59, 60, 61, 62, 63, 64, 65, 66, 67, 68, 69, 70, 71] rfl (by decide +kernel)
set_option maxRecDepth 20000 in
theorem gX10_bars_X10_isTooLike : GoodIn wsX10_bars (wsV RX10 220 RX10 yX10_isTooLike wsX10_isTooLike) := goodIn_app (goodIn_of _ (by decide +kernel)) ggX10_bars_X10_isTooLike
set_option maxRecDepth 20000 in
theorem dqX10_bars_p130 : dz_rn 0 (cX10_bars.data.toList.drop 0) [(0, 1), (3, 2), (4, 7), (0, 2), (3, 2), (4, 8), (2, 0), (0, 12), (0, 4), (0, 2), (2, 0), (0, 27), (3, 1), (0, 4)] = some [(0, .iload_n 1, 1), (1, .invokestatic 112, 3), (4, .ifCond .eq 10, 3), (7, .iload_n 2, 1), (8, .invokestatic 118, 3), (11, .ifCond .ne 6, 3), (14, .bipush (-2), 2), (16, .ireturn, 1), (17, .aload_n 0, 1), (18, .iload_n 2, 1), (19, .bipush 6, 2), (21, .idiv, 1), (22, .invokevirtual 213, 3), (25, .aload_n 0, 1)] := by decide +kernel
theorem dX10_bars_0 : decode cX10_bars 0 = .ok (.iload_n 1, 1) := dz_at dqX10_bars_p130 0 rfl
theorem dX10_bars_1 : decode cX10_bars 1 = .ok (.invokestatic 112, 3) := dz_at dqX10_bars_p130 1 rfl
theorem dX10_bars_4 : decode cX10_bars 4 = .ok (.ifCond .eq 10, 3) := dz_at dqX10_bars_p130 2 rfl
theorem dX10_bars_7 : decode cX10_bars 7 = .ok (.iload_n 2, 1) := dz_at dqX10_bars_p130 3 rfl
theorem dX10_bars_8 : decode cX10_bars 8 = .ok (.invokestatic 118, 3) := dz_at dqX10_bars_p130 4 rfl
theorem dX10_bars_11 : decode cX10_bars 11 = .ok (.ifCond .ne 6, 3) := dz_at dqX10_bars_p130 5 rfl
theorem dX10_bars_14 : decode cX10_bars 14 = .ok (.bipush (-2), 2) := dz_at dqX10_bars_p130 6 rfl
theorem dX10_bars_16 : decode cX10_bars 16 = .ok (.ireturn, 1) := dz_at dqX10_bars_p130 7 rfl
theorem dX10_bars_17 : decode cX10_bars 17 = .ok (.aload_n 0, 1) := dz_at dqX10_bars_p130 8 rfl
theorem dX10_bars_18 : decode cX10_bars 18 = .ok (.iload_n 2, 1) := dz_at dqX10_bars_p130 9 rfl
theorem dX10_bars_19 : decode cX10_bars 19 = .ok (.bipush 6, 2) := dz_at dqX10_bars_p130 10 rfl
theorem dX10_bars_21 : decode cX10_bars 21 = .ok (.idiv, 1) := dz_at dqX10_bars_p130 11 rfl
theorem dX10_bars_22 : decode cX10_bars 22 = .ok (.invokevirtual 213, 3) := dz_at dqX10_bars_p130 12 rfl
theorem dX10_bars_25 : decode cX10_bars 25 = .ok (.aload_n 0, 1) := dz_at dqX10_bars_p130 13 rfl
set_option maxRecDepth 20000 in
theorem dqX10_bars_p131 : dz_rn 26 (cX10_bars.data.toList.drop 26) [(0, 8), (0, 2), (2, 0), (0, 27), (2, 0), (3, 1), (4, 3), (0, 9), (4, 0), (0, 8), (0, 21), (0, 4), (0, 14), (0, 8)] = some [(26, .iconst 0, 1), (27, .iload_n 2, 1), (28, .bipush 6, 2), (30, .idiv, 1), (31, .bipush 100, 2), (33, .invokevirtual 216, 3), (36, .if_icmp .lt 7, 3), (39, .iconst 1, 1), (40, .goto 4, 3), (43, .iconst 0, 1), (44, .istore_n 3, 1), (45, .aload_n 0, 1), (46, .iconst 2, 1), (47, .iconst 0, 1)] := by decide +kernel
theorem dX10_bars_26 : decode cX10_bars 26 = .ok (.iconst 0, 1) := dz_at dqX10_bars_p131 0 rfl
theorem dX10_bars_27 : decode cX10_bars 27 = .ok (.iload_n 2, 1) := dz_at dqX10_bars_p131 1 rfl
theorem dX10_bars_28 : decode cX10_bars 28 = .ok (.bipush 6, 2) := dz_at dqX10_bars_p131 2 rfl
theorem dX10_bars_30 : decode cX10_bars 30 = .ok (.idiv, 1) := dz_at dqX10_bars_p131 3 rfl
theorem dX10_bars_31 : decode cX10_bars 31 = .ok (.bipush 100, 2) := dz_at dqX10_bars_p131 4 rfl
theorem dX10_bars_33 : decode cX10_bars 33 = .ok (.invokevirtual 216, 3) := dz_at dqX10_bars_p131 5 rfl
theorem dX10_bars_36 : decode cX10_bars 36 = .ok (.if_icmp .lt 7, 3) := dz_at dqX10_bars_p131 6 rfl
theorem dX10_bars_39 : decode cX10_bars 39 = .ok (.iconst 1, 1) := dz_at dqX10_bars_p131 7 rfl
theorem dX10_bars_40 : decode cX10_bars 40 = .ok (.goto 4, 3) := dz_at dqX10_bars_p131 8 rfl
theorem dX10_bars_43 : decode cX10_bars 43 = .ok (.iconst 0, 1) := dz_at dqX10_bars_p131 9 rfl
theorem dX10_bars_44 : decode cX10_bars 44 = .ok (.istore_n 3, 1) := dz_at dqX10_bars_p131 10 rfl
theorem dX10_bars_45 : decode cX10_bars 45 = .ok (.aload_n 0, 1) := dz_at dqX10_bars_p131 11 rfl
theorem dX10_bars_46 : decode cX10_bars 46 = .ok (.iconst 2, 1) := dz_at dqX10_bars_p131 12 rfl
theorem dX10_bars_47 : decode cX10_bars 47 = .ok (.iconst 0, 1) := dz_at dqX10_bars_p131 13 rfl
set_option maxRecDepth 20000 in
theorem dqX10_bars_p132 : dz_rn 48 (cX10_bars.data.toList.drop 48) [(2, 0), (3, 1), (1, 1), (0, 3), (0, 4), (3, 0), (0, 2), (0, 10), (0, 13), (4, 1), (0, 4), (3, 0), (0, 4), (3, 0)] = some [(48, .bipush 100, 2), (50, .invokevirtual 216, 3), (53, .istore 4, 2), (55, .iload_n 3, 1), (56, .aload_n 0, 1), (57, .getfield 44, 3), (60, .iload_n 2, 1), (61, .iaload, 1), (62, .iconst (-1), 1), (63, .if_icmp .eq 28, 3), (66, .aload_n 0, 1), (67, .getfield 125, 3), (70, .aload_n 0, 1), (71, .getfield 44, 3)] := by decide +kernel
theorem dX10_bars_48 : decode cX10_bars 48 = .ok (.bipush 100, 2) := dz_at dqX10_bars_p132 0 rfl
theorem dX10_bars_50 : decode cX10_bars 50 = .ok (.invokevirtual 216, 3) := dz_at dqX10_bars_p132 1 rfl
theorem dX10_bars_53 : decode cX10_bars 53 = .ok (.istore 4, 2) := dz_at dqX10_bars_p132 2 rfl
theorem dX10_bars_55 : decode cX10_bars 55 = .ok (.iload_n 3, 1) := dz_at dqX10_bars_p132 3 rfl
theorem dX10_bars_56 : decode cX10_bars 56 = .ok (.aload_n 0, 1) := dz_at dqX10_bars_p132 4 rfl
theorem dX10_bars_57 : decode cX10_bars 57 = .ok (.getfield 44, 3) := dz_at dqX10_bars_p132 5 rfl
theorem dX10_bars_60 : decode cX10_bars 60 = .ok (.iload_n 2, 1) := dz_at dqX10_bars_p132 6 rfl
theorem dX10_bars_61 : decode cX10_bars 61 = .ok (.iaload, 1) := dz_at dqX10_bars_p132 7 rfl
theorem dX10_bars_62 : decode cX10_bars 62 = .ok (.iconst (-1), 1) := dz_at dqX10_bars_p132 8 rfl
theorem dX10_bars_63 : decode cX10_bars 63 = .ok (.if_icmp .eq 28, 3) := dz_at dqX10_bars_p132 9 rfl
theorem dX10_bars_66 : decode cX10_bars 66 = .ok (.aload_n 0, 1) := dz_at dqX10_bars_p132 10 rfl
theorem dX10_bars_67 : decode cX10_bars 67 = .ok (.getfield 125, 3) := dz_at dqX10_bars_p132 11 rfl
theorem dX10_bars_70 : decode cX10_bars 70 = .ok (.aload_n 0, 1) := dz_at dqX10_bars_p132 12 rfl
theorem dX10_bars_71 : decode cX10_bars 71 = .ok (.getfield 44, 3) := dz_at dqX10_bars_p132 13 rfl
set_option maxRecDepth 20000 in
theorem dqX10_bars_p133 : dz_rn 74 (cX10_bars.data.toList.drop 74) [(0, 2), (0, 10), (0, 26), (0, 4), (0, 9), (0, 8), (0, 8), (3, 1), (4, 4), (0, 14), (4, 0), (0, 8), (0, 11), (0, 21)] = some [(74, .iload_n 2, 1), (75, .iaload, 1), (76, .isub, 1), (77, .aload_n 0, 1), (78, .iconst 1, 1), (79, .iconst 0, 1), (80, .iconst 0, 1), (81, .invokevirtual 216, 3), (84, .if_icmp .ge 7, 3), (87, .iconst 2, 1), (88, .goto 4, 3), (91, .iconst 0, 1), (92, .iadd, 1), (93, .istore_n 3, 1)] := by decide +kernel
theorem dX10_bars_74 : decode cX10_bars 74 = .ok (.iload_n 2, 1) := dz_at dqX10_bars_p133 0 rfl
theorem dX10_bars_75 : decode cX10_bars 75 = .ok (.iaload, 1) := dz_at dqX10_bars_p133 1 rfl
theorem dX10_bars_76 : decode cX10_bars 76 = .ok (.isub, 1) := dz_at dqX10_bars_p133 2 rfl
theorem dX10_bars_77 : decode cX10_bars 77 = .ok (.aload_n 0, 1) := dz_at dqX10_bars_p133 3 rfl
theorem dX10_bars_78 : decode cX10_bars 78 = .ok (.iconst 1, 1) := dz_at dqX10_bars_p133 4 rfl
theorem dX10_bars_79 : decode cX10_bars 79 = .ok (.iconst 0, 1) := dz_at dqX10_bars_p133 5 rfl
theorem dX10_bars_80 : decode cX10_bars 80 = .ok (.iconst 0, 1) := dz_at dqX10_bars_p133 6 rfl
theorem dX10_bars_81 : decode cX10_bars 81 = .ok (.invokevirtual 216, 3) := dz_at dqX10_bars_p133 7 rfl
theorem dX10_bars_84 : decode cX10_bars 84 = .ok (.if_icmp .ge 7, 3) := dz_at dqX10_bars_p133 8 rfl
theorem dX10_bars_87 : decode cX10_bars 87 = .ok (.iconst 2, 1) := dz_at dqX10_bars_p133 9 rfl
theorem dX10_bars_88 : decode cX10_bars 88 = .ok (.goto 4, 3) := dz_at dqX10_bars_p133 10 rfl
theorem dX10_bars_91 : decode cX10_bars 91 = .ok (.iconst 0, 1) := dz_at dqX10_bars_p133 11 rfl
theorem dX10_bars_92 : decode cX10_bars 92 = .ok (.iadd, 1) := dz_at dqX10_bars_p133 12 rfl
theorem dX10_bars_93 : decode cX10_bars 93 = .ok (.istore_n 3, 1) := dz_at dqX10_bars_p133 13 rfl
set_option maxRecDepth 20000 in
theorem dqX10_bars_p134 : dz_rn 94 (cX10_bars.data.toList.drop 94) [(0, 2), (2, 0), (0, 30), (4, 12), (0, 4), (0, 1), (0, 2), (0, 9), (0, 26), (1, 0), (3, 1), (4, 8), (0, 2), (2, 0)] = some [(94, .iload_n 2, 1), (95, .bipush 6, 2), (97, .irem, 1), (98, .ifCond .le 16, 3), (101, .aload_n 0, 1), (102, .iload_n 1, 1), (103, .iload_n 2, 1), (104, .iconst 1, 1), (105, .isub, 1), (106, .iload 4, 2), (108, .invokevirtual 220, 3), (111, .ifCond .ne 24, 3), (114, .iload_n 2, 1), (115, .bipush 6, 2)] := by decide +kernel
theorem dX10_bars_94 : decode cX10_bars 94 = .ok (.iload_n 2, 1) := dz_at dqX10_bars_p134 0 rfl
theorem dX10_bars_95 : decode cX10_bars 95 = .ok (.bipush 6, 2) := dz_at dqX10_bars_p134 1 rfl
theorem dX10_bars_97 : decode cX10_bars 97 = .ok (.irem, 1) := dz_at dqX10_bars_p134 2 rfl
theorem dX10_bars_98 : decode cX10_bars 98 = .ok (.ifCond .le 16, 3) := dz_at dqX10_bars_p134 3 rfl
theorem dX10_bars_101 : decode cX10_bars 101 = .ok (.aload_n 0, 1) := dz_at dqX10_bars_p134 4 rfl
theorem dX10_bars_102 : decode cX10_bars 102 = .ok (.iload_n 1, 1) := dz_at dqX10_bars_p134 5 rfl
theorem dX10_bars_103 : decode cX10_bars 103 = .ok (.iload_n 2, 1) := dz_at dqX10_bars_p134 6 rfl
theorem dX10_bars_104 : decode cX10_bars 104 = .ok (.iconst 1, 1) := dz_at dqX10_bars_p134 7 rfl
theorem dX10_bars_105 : decode cX10_bars 105 = .ok (.isub, 1) := dz_at dqX10_bars_p134 8 rfl
theorem dX10_bars_106 : decode cX10_bars 106 = .ok (.iload 4, 2) := dz_at dqX10_bars_p134 9 rfl
theorem dX10_bars_108 : decode cX10_bars 108 = .ok (.invokevirtual 220, 3) := dz_at dqX10_bars_p134 10 rfl
theorem dX10_bars_111 : decode cX10_bars 111 = .ok (.ifCond .ne 24, 3) := dz_at dqX10_bars_p134 11 rfl
theorem dX10_bars_114 : decode cX10_bars 114 = .ok (.iload_n 2, 1) := dz_at dqX10_bars_p134 12 rfl
theorem dX10_bars_115 : decode cX10_bars 115 = .ok (.bipush 6, 2) := dz_at dqX10_bars_p134 13 rfl
set_option maxRecDepth 20000 in
theorem dqX10_bars_p135 : dz_rn 117 (cX10_bars.data.toList.drop 117) [(0, 30), (0, 17), (4, 4), (0, 4), (0, 1), (0, 2), (0, 9), (0, 11), (1, 0), (3, 1), (4, 7), (0, 9), (4, 0), (0, 8)] = some [(117, .irem, 1), (118, .iconst 5, 1), (119, .if_icmp .ge 20, 3), (122, .aload_n 0, 1), (123, .iload_n 1, 1), (124, .iload_n 2, 1), (125, .iconst 1, 1), (126, .iadd, 1), (127, .iload 4, 2), (129, .invokevirtual 220, 3), (132, .ifCond .eq 7, 3), (135, .iconst 1, 1), (136, .goto 4, 3), (139, .iconst 0, 1)] := by decide +kernel
theorem dX10_bars_117 : decode cX10_bars 117 = .ok (.irem, 1) := dz_at dqX10_bars_p135 0 rfl
theorem dX10_bars_118 : decode cX10_bars 118 = .ok (.iconst 5, 1) := dz_at dqX10_bars_p135 1 rfl
theorem dX10_bars_119 : decode cX10_bars 119 = .ok (.if_icmp .ge 20, 3) := dz_at dqX10_bars_p135 2 rfl
theorem dX10_bars_122 : decode cX10_bars 122 = .ok (.aload_n 0, 1) := dz_at dqX10_bars_p135 3 rfl
theorem dX10_bars_123 : decode cX10_bars 123 = .ok (.iload_n 1, 1) := dz_at dqX10_bars_p135 4 rfl
theorem dX10_bars_124 : decode cX10_bars 124 = .ok (.iload_n 2, 1) := dz_at dqX10_bars_p135 5 rfl
theorem dX10_bars_125 : decode cX10_bars 125 = .ok (.iconst 1, 1) := dz_at dqX10_bars_p135 6 rfl
theorem dX10_bars_126 : decode cX10_bars 126 = .ok (.iadd, 1) := dz_at dqX10_bars_p135 7 rfl
theorem dX10_bars_127 : decode cX10_bars 127 = .ok (.iload 4, 2) := dz_at dqX10_bars_p135 8 rfl
theorem dX10_bars_129 : decode cX10_bars 129 = .ok (.invokevirtual 220, 3) := dz_at dqX10_bars_p135 9 rfl
theorem dX10_bars_132 : decode cX10_bars 132 = .ok (.ifCond .eq 7, 3) := dz_at dqX10_bars_p135 10 rfl
theorem dX10_bars_135 : decode cX10_bars 135 = .ok (.iconst 1, 1) := dz_at dqX10_bars_p135 11 rfl
theorem dX10_bars_136 : decode cX10_bars 136 = .ok (.goto 4, 3) := dz_at dqX10_bars_p135 12 rfl
theorem dX10_bars_139 : decode cX10_bars 139 = .ok (.iconst 0, 1) := dz_at dqX10_bars_p135 13 rfl
set_option maxRecDepth 20000 in
theorem dqX10_bars_p136 : dz_rn 140 (cX10_bars.data.toList.drop 140) [(1, 1), (0, 3), (1, 0), (4, 7), (0, 16), (4, 0), (0, 8), (0, 11), (0, 12)] = some [(140, .istore 5, 2), (142, .iload_n 3, 1), (143, .iload 5, 2), (145, .ifCond .eq 7, 3), (148, .iconst 4, 1), (149, .goto 4, 3), (152, .iconst 0, 1), (153, .iadd, 1), (154, .ireturn, 1)] := by decide +kernel
theorem dX10_bars_140 : decode cX10_bars 140 = .ok (.istore 5, 2) := dz_at dqX10_bars_p136 0 rfl
theorem dX10_bars_142 : decode cX10_bars 142 = .ok (.iload_n 3, 1) := dz_at dqX10_bars_p136 1 rfl
theorem dX10_bars_143 : decode cX10_bars 143 = .ok (.iload 5, 2) := dz_at dqX10_bars_p136 2 rfl
theorem dX10_bars_145 : decode cX10_bars 145 = .ok (.ifCond .eq 7, 3) := dz_at dqX10_bars_p136 3 rfl
theorem dX10_bars_148 : decode cX10_bars 148 = .ok (.iconst 4, 1) := dz_at dqX10_bars_p136 4 rfl
theorem dX10_bars_149 : decode cX10_bars 149 = .ok (.goto 4, 3) := dz_at dqX10_bars_p136 5 rfl
theorem dX10_bars_152 : decode cX10_bars 152 = .ok (.iconst 0, 1) := dz_at dqX10_bars_p136 6 rfl
theorem dX10_bars_153 : decode cX10_bars 153 = .ok (.iadd, 1) := dz_at dqX10_bars_p136 7 rfl
theorem dX10_bars_154 : decode cX10_bars 154 = .ok (.ireturn, 1) := dz_at dqX10_bars_p136 8 rfl
set_option maxRecDepth 20000 in
theorem ggX10_due_X10_lastOf : GoodIn wsX10_due wsX10_lastOf := goodIn_r _ [7, 8, 9, 10, 11, 12, 13, 14, 15, 16, 17, 18, 19, 20, 21, 22, 23, 24, 25, 26, 27, 28, 29, 30, 31, 32, 33, 34, 35, 36, 37, 38, 39, 40, 41, 42, 43, 44, 45, 46, 47, 48] rfl (by decide +kernel)
set_option maxRecDepth 20000 in
theorem gX10_due_X10_lastOf : GoodIn wsX10_due (wsV RX10 216 RX10 yX10_lastOf wsX10_lastOf) := goodIn_app (goodIn_of _ (by decide +kernel)) ggX10_due_X10_lastOf
set_option maxRecDepth 20000 in
theorem dqX10_due_p130 : dz_rn 0 (cX10_due.data.toList.drop 0) [(0, 8), (0, 19), (0, 8), (0, 20), (0, 2), (2, 0), (4, 4), (0, 4), (0, 15), (0, 2), (0, 8), (3, 1), (0, 21), (0, 3)] = some [(0, .iconst 0, 1), (1, .istore_n 1, 1), (2, .iconst 0, 1), (3, .istore_n 2, 1), (4, .iload_n 2, 1), (5, .bipush 8, 2), (7, .if_icmp .ge 68, 3), (10, .aload_n 0, 1), (11, .iconst 3, 1), (12, .iload_n 2, 1), (13, .iconst 0, 1), (14, .invokevirtual 216, 3), (17, .istore_n 3, 1), (18, .iload_n 3, 1)] := by decide +kernel
theorem dX10_due_0 : decode cX10_due 0 = .ok (.iconst 0, 1) := dz_at dqX10_due_p130 0 rfl
theorem dX10_due_1 : decode cX10_due 1 = .ok (.istore_n 1, 1) := dz_at dqX10_due_p130 1 rfl
theorem dX10_due_2 : decode cX10_due 2 = .ok (.iconst 0, 1) := dz_at dqX10_due_p130 2 rfl
theorem dX10_due_3 : decode cX10_due 3 = .ok (.istore_n 2, 1) := dz_at dqX10_due_p130 3 rfl
theorem dX10_due_4 : decode cX10_due 4 = .ok (.iload_n 2, 1) := dz_at dqX10_due_p130 4 rfl
theorem dX10_due_5 : decode cX10_due 5 = .ok (.bipush 8, 2) := dz_at dqX10_due_p130 5 rfl
theorem dX10_due_7 : decode cX10_due 7 = .ok (.if_icmp .ge 68, 3) := dz_at dqX10_due_p130 6 rfl
theorem dX10_due_10 : decode cX10_due 10 = .ok (.aload_n 0, 1) := dz_at dqX10_due_p130 7 rfl
theorem dX10_due_11 : decode cX10_due 11 = .ok (.iconst 3, 1) := dz_at dqX10_due_p130 8 rfl
theorem dX10_due_12 : decode cX10_due 12 = .ok (.iload_n 2, 1) := dz_at dqX10_due_p130 9 rfl
theorem dX10_due_13 : decode cX10_due 13 = .ok (.iconst 0, 1) := dz_at dqX10_due_p130 10 rfl
theorem dX10_due_14 : decode cX10_due 14 = .ok (.invokevirtual 216, 3) := dz_at dqX10_due_p130 11 rfl
theorem dX10_due_17 : decode cX10_due 17 = .ok (.istore_n 3, 1) := dz_at dqX10_due_p130 12 rfl
theorem dX10_due_18 : decode cX10_due 18 = .ok (.iload_n 3, 1) := dz_at dqX10_due_p130 13 rfl
set_option maxRecDepth 20000 in
theorem dqX10_due_p131 : dz_rn 19 (cX10_due.data.toList.drop 19) [(4, 12), (0, 4), (3, 0), (0, 2), (0, 10), (0, 13), (4, 1), (0, 4), (3, 0), (0, 4), (3, 0), (0, 2), (0, 10), (0, 26)] = some [(19, .ifCond .le 32, 3), (22, .aload_n 0, 1), (23, .getfield 47, 3), (26, .iload_n 2, 1), (27, .iaload, 1), (28, .iconst (-1), 1), (29, .if_icmp .eq 18, 3), (32, .aload_n 0, 1), (33, .getfield 125, 3), (36, .aload_n 0, 1), (37, .getfield 47, 3), (40, .iload_n 2, 1), (41, .iaload, 1), (42, .isub, 1)] := by decide +kernel
theorem dX10_due_19 : decode cX10_due 19 = .ok (.ifCond .le 32, 3) := dz_at dqX10_due_p131 0 rfl
theorem dX10_due_22 : decode cX10_due 22 = .ok (.aload_n 0, 1) := dz_at dqX10_due_p131 1 rfl
theorem dX10_due_23 : decode cX10_due 23 = .ok (.getfield 47, 3) := dz_at dqX10_due_p131 2 rfl
theorem dX10_due_26 : decode cX10_due 26 = .ok (.iload_n 2, 1) := dz_at dqX10_due_p131 3 rfl
theorem dX10_due_27 : decode cX10_due 27 = .ok (.iaload, 1) := dz_at dqX10_due_p131 4 rfl
theorem dX10_due_28 : decode cX10_due 28 = .ok (.iconst (-1), 1) := dz_at dqX10_due_p131 5 rfl
theorem dX10_due_29 : decode cX10_due 29 = .ok (.if_icmp .eq 18, 3) := dz_at dqX10_due_p131 6 rfl
theorem dX10_due_32 : decode cX10_due 32 = .ok (.aload_n 0, 1) := dz_at dqX10_due_p131 7 rfl
theorem dX10_due_33 : decode cX10_due 33 = .ok (.getfield 125, 3) := dz_at dqX10_due_p131 8 rfl
theorem dX10_due_36 : decode cX10_due 36 = .ok (.aload_n 0, 1) := dz_at dqX10_due_p131 9 rfl
theorem dX10_due_37 : decode cX10_due 37 = .ok (.getfield 47, 3) := dz_at dqX10_due_p131 10 rfl
theorem dX10_due_40 : decode cX10_due 40 = .ok (.iload_n 2, 1) := dz_at dqX10_due_p131 11 rfl
theorem dX10_due_41 : decode cX10_due 41 = .ok (.iaload, 1) := dz_at dqX10_due_p131 12 rfl
theorem dX10_due_42 : decode cX10_due 42 = .ok (.isub, 1) := dz_at dqX10_due_p131 13 rfl
set_option maxRecDepth 20000 in
theorem dqX10_due_p132 : dz_rn 43 (cX10_due.data.toList.drop 43) [(0, 3), (4, 3), (0, 9), (4, 0), (0, 8), (1, 1), (0, 1), (1, 0), (4, 7), (0, 9), (0, 2), (0, 31), (4, 0), (0, 8)] = some [(43, .iload_n 3, 1), (44, .if_icmp .lt 7, 3), (47, .iconst 1, 1), (48, .goto 4, 3), (51, .iconst 0, 1), (52, .istore 4, 2), (54, .iload_n 1, 1), (55, .iload 4, 2), (57, .ifCond .eq 9, 3), (60, .iconst 1, 1), (61, .iload_n 2, 1), (62, .ishl, 1), (63, .goto 4, 3), (66, .iconst 0, 1)] := by decide +kernel
theorem dX10_due_43 : decode cX10_due 43 = .ok (.iload_n 3, 1) := dz_at dqX10_due_p132 0 rfl
theorem dX10_due_44 : decode cX10_due 44 = .ok (.if_icmp .lt 7, 3) := dz_at dqX10_due_p132 1 rfl
theorem dX10_due_47 : decode cX10_due 47 = .ok (.iconst 1, 1) := dz_at dqX10_due_p132 2 rfl
theorem dX10_due_48 : decode cX10_due 48 = .ok (.goto 4, 3) := dz_at dqX10_due_p132 3 rfl
theorem dX10_due_51 : decode cX10_due 51 = .ok (.iconst 0, 1) := dz_at dqX10_due_p132 4 rfl
theorem dX10_due_52 : decode cX10_due 52 = .ok (.istore 4, 2) := dz_at dqX10_due_p132 5 rfl
theorem dX10_due_54 : decode cX10_due 54 = .ok (.iload_n 1, 1) := dz_at dqX10_due_p132 6 rfl
theorem dX10_due_55 : decode cX10_due 55 = .ok (.iload 4, 2) := dz_at dqX10_due_p132 7 rfl
theorem dX10_due_57 : decode cX10_due 57 = .ok (.ifCond .eq 9, 3) := dz_at dqX10_due_p132 8 rfl
theorem dX10_due_60 : decode cX10_due 60 = .ok (.iconst 1, 1) := dz_at dqX10_due_p132 9 rfl
theorem dX10_due_61 : decode cX10_due 61 = .ok (.iload_n 2, 1) := dz_at dqX10_due_p132 10 rfl
theorem dX10_due_62 : decode cX10_due 62 = .ok (.ishl, 1) := dz_at dqX10_due_p132 11 rfl
theorem dX10_due_63 : decode cX10_due 63 = .ok (.goto 4, 3) := dz_at dqX10_due_p132 12 rfl
theorem dX10_due_66 : decode cX10_due 66 = .ok (.iconst 0, 1) := dz_at dqX10_due_p132 13 rfl
set_option maxRecDepth 20000 in
theorem dqX10_due_p133 : dz_rn 67 (cX10_due.data.toList.drop 67) [(0, 39), (0, 19), (5, 0), (4, 0), (0, 1), (0, 12)] = some [(67, .ior, 1), (68, .istore_n 1, 1), (69, .iinc 2 1, 3), (72, .goto (-68), 3), (75, .iload_n 1, 1), (76, .ireturn, 1)] := by decide +kernel
theorem dX10_due_67 : decode cX10_due 67 = .ok (.ior, 1) := dz_at dqX10_due_p133 0 rfl
theorem dX10_due_68 : decode cX10_due 68 = .ok (.istore_n 1, 1) := dz_at dqX10_due_p133 1 rfl
theorem dX10_due_69 : decode cX10_due 69 = .ok (.iinc 2 1, 3) := dz_at dqX10_due_p133 2 rfl
theorem dX10_due_72 : decode cX10_due 72 = .ok (.goto (-68), 3) := dz_at dqX10_due_p133 3 rfl
theorem dX10_due_75 : decode cX10_due 75 = .ok (.iload_n 1, 1) := dz_at dqX10_due_p133 4 rfl
theorem dX10_due_76 : decode cX10_due 76 = .ok (.ireturn, 1) := dz_at dqX10_due_p133 5 rfl
end
