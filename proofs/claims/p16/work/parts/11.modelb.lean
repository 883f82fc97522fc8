set_option maxRecDepth 20000 in
theorem ggX10_likeBeside_X10_likeness : GoodIn wsX10_likeBeside wsX10_likeness := goodIn_r _ [7, 8, 9, 10, 11, 12, 13, 14, 15, 16, 17, 18, 19, 20, 21, 22, 23, 24, 25, 26, 27, 28, 29, 30, 31, 32, 33, 34, 35, 36, 37, 38, 39, 40, 41, 42, 43, 44, 45, 46, 47] rfl (by decide +kernel)
set_option maxRecDepth 20000 in
theorem gX10_likeBeside_X10_likeness : GoodIn wsX10_likeBeside (wsV RX10 115 RX10 yX10_likeness wsX10_likeness) := goodIn_app (goodIn_of _ (by decide +kernel)) ggX10_likeBeside_X10_likeness
set_option maxRecDepth 20000 in
theorem dqX10_likeBeside_p110 : dz_rn 0 (cX10_likeBeside.data.toList.drop 0) [(0, 8), (0, 20), (0, 1), (2, 0), (0, 27), (2, 0), (0, 23), (0, 21), (0, 3), (0, 1), (2, 0), (0, 27), (2, 0), (0, 23)] = some [(0, .iconst 0, 1), (1, .istore_n 2, 1), (2, .iload_n 1, 1), (3, .bipush 6, 2), (5, .idiv, 1), (6, .bipush 6, 2), (8, .imul, 1), (9, .istore_n 3, 1), (10, .iload_n 3, 1), (11, .iload_n 1, 1), (12, .bipush 6, 2), (14, .idiv, 1), (15, .bipush 6, 2), (17, .imul, 1)] := by decide +kernel
theorem dX10_likeBeside_0 : decode cX10_likeBeside 0 = .ok (.iconst 0, 1) := dz_at dqX10_likeBeside_p110 0 rfl
theorem dX10_likeBeside_1 : decode cX10_likeBeside 1 = .ok (.istore_n 2, 1) := dz_at dqX10_likeBeside_p110 1 rfl
theorem dX10_likeBeside_2 : decode cX10_likeBeside 2 = .ok (.iload_n 1, 1) := dz_at dqX10_likeBeside_p110 2 rfl
theorem dX10_likeBeside_3 : decode cX10_likeBeside 3 = .ok (.bipush 6, 2) := dz_at dqX10_likeBeside_p110 3 rfl
theorem dX10_likeBeside_5 : decode cX10_likeBeside 5 = .ok (.idiv, 1) := dz_at dqX10_likeBeside_p110 4 rfl
theorem dX10_likeBeside_6 : decode cX10_likeBeside 6 = .ok (.bipush 6, 2) := dz_at dqX10_likeBeside_p110 5 rfl
theorem dX10_likeBeside_8 : decode cX10_likeBeside 8 = .ok (.imul, 1) := dz_at dqX10_likeBeside_p110 6 rfl
theorem dX10_likeBeside_9 : decode cX10_likeBeside 9 = .ok (.istore_n 3, 1) := dz_at dqX10_likeBeside_p110 7 rfl
theorem dX10_likeBeside_10 : decode cX10_likeBeside 10 = .ok (.iload_n 3, 1) := dz_at dqX10_likeBeside_p110 8 rfl
theorem dX10_likeBeside_11 : decode cX10_likeBeside 11 = .ok (.iload_n 1, 1) := dz_at dqX10_likeBeside_p110 9 rfl
theorem dX10_likeBeside_12 : decode cX10_likeBeside 12 = .ok (.bipush 6, 2) := dz_at dqX10_likeBeside_p110 10 rfl
theorem dX10_likeBeside_14 : decode cX10_likeBeside 14 = .ok (.idiv, 1) := dz_at dqX10_likeBeside_p110 11 rfl
theorem dX10_likeBeside_15 : decode cX10_likeBeside 15 = .ok (.bipush 6, 2) := dz_at dqX10_likeBeside_p110 12 rfl
theorem dX10_likeBeside_17 : decode cX10_likeBeside 17 = .ok (.imul, 1) := dz_at dqX10_likeBeside_p110 13 rfl
set_option maxRecDepth 20000 in
theorem dqX10_likeBeside_p111 : dz_rn 18 (cX10_likeBeside.data.toList.drop 18) [(2, 0), (0, 11), (4, 4), (0, 2), (0, 3), (0, 1), (4, 1), (0, 4), (3, 0), (0, 3), (0, 10), (0, 13), (4, 1), (0, 4)] = some [(18, .bipush 6, 2), (20, .iadd, 1), (21, .if_icmp .ge 55, 3), (24, .iload_n 2, 1), (25, .iload_n 3, 1), (26, .iload_n 1, 1), (27, .if_icmp .eq 40, 3), (30, .aload_n 0, 1), (31, .getfield 32, 3), (34, .iload_n 3, 1), (35, .iaload, 1), (36, .iconst (-1), 1), (37, .if_icmp .eq 30, 3), (40, .aload_n 0, 1)] := by decide +kernel
theorem dX10_likeBeside_18 : decode cX10_likeBeside 18 = .ok (.bipush 6, 2) := dz_at dqX10_likeBeside_p111 0 rfl
theorem dX10_likeBeside_20 : decode cX10_likeBeside 20 = .ok (.iadd, 1) := dz_at dqX10_likeBeside_p111 1 rfl
theorem dX10_likeBeside_21 : decode cX10_likeBeside 21 = .ok (.if_icmp .ge 55, 3) := dz_at dqX10_likeBeside_p111 2 rfl
theorem dX10_likeBeside_24 : decode cX10_likeBeside 24 = .ok (.iload_n 2, 1) := dz_at dqX10_likeBeside_p111 3 rfl
theorem dX10_likeBeside_25 : decode cX10_likeBeside 25 = .ok (.iload_n 3, 1) := dz_at dqX10_likeBeside_p111 4 rfl
theorem dX10_likeBeside_26 : decode cX10_likeBeside 26 = .ok (.iload_n 1, 1) := dz_at dqX10_likeBeside_p111 5 rfl
theorem dX10_likeBeside_27 : decode cX10_likeBeside 27 = .ok (.if_icmp .eq 40, 3) := dz_at dqX10_likeBeside_p111 6 rfl
theorem dX10_likeBeside_30 : decode cX10_likeBeside 30 = .ok (.aload_n 0, 1) := dz_at dqX10_likeBeside_p111 7 rfl
theorem dX10_likeBeside_31 : decode cX10_likeBeside 31 = .ok (.getfield 32, 3) := dz_at dqX10_likeBeside_p111 8 rfl
theorem dX10_likeBeside_34 : decode cX10_likeBeside 34 = .ok (.iload_n 3, 1) := dz_at dqX10_likeBeside_p111 9 rfl
theorem dX10_likeBeside_35 : decode cX10_likeBeside 35 = .ok (.iaload, 1) := dz_at dqX10_likeBeside_p111 10 rfl
theorem dX10_likeBeside_36 : decode cX10_likeBeside 36 = .ok (.iconst (-1), 1) := dz_at dqX10_likeBeside_p111 11 rfl
theorem dX10_likeBeside_37 : decode cX10_likeBeside 37 = .ok (.if_icmp .eq 30, 3) := dz_at dqX10_likeBeside_p111 12 rfl
theorem dX10_likeBeside_40 : decode cX10_likeBeside 40 = .ok (.aload_n 0, 1) := dz_at dqX10_likeBeside_p111 13 rfl
set_option maxRecDepth 20000 in
theorem dqX10_likeBeside_p112 : dz_rn 41 (cX10_likeBeside.data.toList.drop 41) [(0, 4), (3, 0), (0, 3), (0, 10), (0, 4), (3, 0), (0, 1), (0, 10), (3, 1), (0, 4), (3, 0), (4, 3), (0, 9), (4, 0)] = some [(41, .aload_n 0, 1), (42, .getfield 32, 3), (45, .iload_n 3, 1), (46, .iaload, 1), (47, .aload_n 0, 1), (48, .getfield 32, 3), (51, .iload_n 1, 1), (52, .iaload, 1), (53, .invokevirtual 115, 3), (56, .aload_n 0, 1), (57, .getfield 22, 3), (60, .if_icmp .lt 7, 3), (63, .iconst 1, 1), (64, .goto 4, 3)] := by decide +kernel
theorem dX10_likeBeside_41 : decode cX10_likeBeside 41 = .ok (.aload_n 0, 1) := dz_at dqX10_likeBeside_p112 0 rfl
theorem dX10_likeBeside_42 : decode cX10_likeBeside 42 = .ok (.getfield 32, 3) := dz_at dqX10_likeBeside_p112 1 rfl
theorem dX10_likeBeside_45 : decode cX10_likeBeside 45 = .ok (.iload_n 3, 1) := dz_at dqX10_likeBeside_p112 2 rfl
theorem dX10_likeBeside_46 : decode cX10_likeBeside 46 = .ok (.iaload, 1) := dz_at dqX10_likeBeside_p112 3 rfl
theorem dX10_likeBeside_47 : decode cX10_likeBeside 47 = .ok (.aload_n 0, 1) := dz_at dqX10_likeBeside_p112 4 rfl
theorem dX10_likeBeside_48 : decode cX10_likeBeside 48 = .ok (.getfield 32, 3) := dz_at dqX10_likeBeside_p112 5 rfl
theorem dX10_likeBeside_51 : decode cX10_likeBeside 51 = .ok (.iload_n 1, 1) := dz_at dqX10_likeBeside_p112 6 rfl
theorem dX10_likeBeside_52 : decode cX10_likeBeside 52 = .ok (.iaload, 1) := dz_at dqX10_likeBeside_p112 7 rfl
theorem dX10_likeBeside_53 : decode cX10_likeBeside 53 = .ok (.invokevirtual 115, 3) := dz_at dqX10_likeBeside_p112 8 rfl
theorem dX10_likeBeside_56 : decode cX10_likeBeside 56 = .ok (.aload_n 0, 1) := dz_at dqX10_likeBeside_p112 9 rfl
theorem dX10_likeBeside_57 : decode cX10_likeBeside 57 = .ok (.getfield 22, 3) := dz_at dqX10_likeBeside_p112 10 rfl
theorem dX10_likeBeside_60 : decode cX10_likeBeside 60 = .ok (.if_icmp .lt 7, 3) := dz_at dqX10_likeBeside_p112 11 rfl
theorem dX10_likeBeside_63 : decode cX10_likeBeside 63 = .ok (.iconst 1, 1) := dz_at dqX10_likeBeside_p112 12 rfl
theorem dX10_likeBeside_64 : decode cX10_likeBeside 64 = .ok (.goto 4, 3) := dz_at dqX10_likeBeside_p112 13 rfl
set_option maxRecDepth 20000 in
theorem dqX10_likeBeside_p113 : dz_rn 67 (cX10_likeBeside.data.toList.drop 67) [(0, 8), (0, 11), (0, 20), (5, 0), (4, 0), (0, 2), (0, 12)] = some [(67, .iconst 0, 1), (68, .iadd, 1), (69, .istore_n 2, 1), (70, .iinc 3 1, 3), (73, .goto (-63), 3), (76, .iload_n 2, 1), (77, .ireturn, 1)] := by decide +kernel
theorem dX10_likeBeside_67 : decode cX10_likeBeside 67 = .ok (.iconst 0, 1) := dz_at dqX10_likeBeside_p113 0 rfl
theorem dX10_likeBeside_68 : decode cX10_likeBeside 68 = .ok (.iadd, 1) := dz_at dqX10_likeBeside_p113 1 rfl
theorem dX10_likeBeside_69 : decode cX10_likeBeside 69 = .ok (.istore_n 2, 1) := dz_at dqX10_likeBeside_p113 2 rfl
theorem dX10_likeBeside_70 : decode cX10_likeBeside 70 = .ok (.iinc 3 1, 3) := dz_at dqX10_likeBeside_p113 3 rfl
theorem dX10_likeBeside_73 : decode cX10_likeBeside 73 = .ok (.goto (-63), 3) := dz_at dqX10_likeBeside_p113 4 rfl
theorem dX10_likeBeside_76 : decode cX10_likeBeside 76 = .ok (.iload_n 2, 1) := dz_at dqX10_likeBeside_p113 5 rfl
theorem dX10_likeBeside_77 : decode cX10_likeBeside 77 = .ok (.ireturn, 1) := dz_at dqX10_likeBeside_p113 6 rfl
set_option maxRecDepth 20000 in
theorem ggX10_goDay_X10_likeBeside : GoodIn wsX10_goDay wsX10_likeBeside := goodIn_r _ [9, 3, 10, 11, 12, 13, 8, 14, 15, 16, 17, 18, 19, 20, 21, 22, 23, 24, 25, 26, 27, 28, 29, 30, 31, 32, 33, 34, 35, 36, 37, 38, 39, 40, 41, 42, 43, 44, 45, 46, 47, 48, 49, 50, 51, 52, 53, 54] rfl (by decide +kernel)
set_option maxRecDepth 20000 in
theorem gX10_goDay_X10_likeBeside : GoodIn wsX10_goDay (wsV RX10 128 RX10 yX10_likeBeside wsX10_likeBeside) := goodIn_app (goodIn_of _ (by decide +kernel)) ggX10_goDay_X10_likeBeside
set_option maxRecDepth 20000 in
theorem dqX10_goDay_p110 : dz_rn 0 (cX10_goDay.data.toList.drop 0) [(0, 8), (0, 21), (0, 3), (2, 0), (4, 4), (0, 4), (3, 0), (0, 1), (0, 3), (0, 11), (0, 10), (1, 1), (0, 4), (3, 0)] = some [(0, .iconst 0, 1), (1, .istore_n 3, 1), (2, .iload_n 3, 1), (3, .bipush 48, 2), (5, .if_icmp .ge 117, 3), (8, .aload_n 0, 1), (9, .getfield 50, 3), (12, .iload_n 1, 1), (13, .iload_n 3, 1), (14, .iadd, 1), (15, .iaload, 1), (16, .istore 4, 2), (18, .aload_n 0, 1), (19, .getfield 53, 3)] := by decide +kernel
theorem dX10_goDay_0 : decode cX10_goDay 0 = .ok (.iconst 0, 1) := dz_at dqX10_goDay_p110 0 rfl
theorem dX10_goDay_1 : decode cX10_goDay 1 = .ok (.istore_n 3, 1) := dz_at dqX10_goDay_p110 1 rfl
theorem dX10_goDay_2 : decode cX10_goDay 2 = .ok (.iload_n 3, 1) := dz_at dqX10_goDay_p110 2 rfl
theorem dX10_goDay_3 : decode cX10_goDay 3 = .ok (.bipush 48, 2) := dz_at dqX10_goDay_p110 3 rfl
theorem dX10_goDay_5 : decode cX10_goDay 5 = .ok (.if_icmp .ge 117, 3) := dz_at dqX10_goDay_p110 4 rfl
theorem dX10_goDay_8 : decode cX10_goDay 8 = .ok (.aload_n 0, 1) := dz_at dqX10_goDay_p110 5 rfl
theorem dX10_goDay_9 : decode cX10_goDay 9 = .ok (.getfield 50, 3) := dz_at dqX10_goDay_p110 6 rfl
theorem dX10_goDay_12 : decode cX10_goDay 12 = .ok (.iload_n 1, 1) := dz_at dqX10_goDay_p110 7 rfl
theorem dX10_goDay_13 : decode cX10_goDay 13 = .ok (.iload_n 3, 1) := dz_at dqX10_goDay_p110 8 rfl
theorem dX10_goDay_14 : decode cX10_goDay 14 = .ok (.iadd, 1) := dz_at dqX10_goDay_p110 9 rfl
theorem dX10_goDay_15 : decode cX10_goDay 15 = .ok (.iaload, 1) := dz_at dqX10_goDay_p110 10 rfl
theorem dX10_goDay_16 : decode cX10_goDay 16 = .ok (.istore 4, 2) := dz_at dqX10_goDay_p110 11 rfl
theorem dX10_goDay_18 : decode cX10_goDay 18 = .ok (.aload_n 0, 1) := dz_at dqX10_goDay_p110 12 rfl
theorem dX10_goDay_19 : decode cX10_goDay 19 = .ok (.getfield 53, 3) := dz_at dqX10_goDay_p110 13 rfl
set_option maxRecDepth 20000 in
theorem dqX10_goDay_p111 : dz_rn 22 (cX10_goDay.data.toList.drop 22) [(0, 1), (0, 3), (0, 11), (0, 10), (1, 1), (0, 4), (3, 0), (0, 3), (0, 10), (0, 13), (4, 2), (0, 8), (4, 0), (1, 0)] = some [(22, .iload_n 1, 1), (23, .iload_n 3, 1), (24, .iadd, 1), (25, .iaload, 1), (26, .istore 5, 2), (28, .aload_n 0, 1), (29, .getfield 32, 3), (32, .iload_n 3, 1), (33, .iaload, 1), (34, .iconst (-1), 1), (35, .if_icmp .ne 7, 3), (38, .iconst 0, 1), (39, .goto 22, 3), (42, .iload 4, 2)] := by decide +kernel
theorem dX10_goDay_22 : decode cX10_goDay 22 = .ok (.iload_n 1, 1) := dz_at dqX10_goDay_p111 0 rfl
theorem dX10_goDay_23 : decode cX10_goDay 23 = .ok (.iload_n 3, 1) := dz_at dqX10_goDay_p111 1 rfl
theorem dX10_goDay_24 : decode cX10_goDay 24 = .ok (.iadd, 1) := dz_at dqX10_goDay_p111 2 rfl
theorem dX10_goDay_25 : decode cX10_goDay 25 = .ok (.iaload, 1) := dz_at dqX10_goDay_p111 3 rfl
theorem dX10_goDay_26 : decode cX10_goDay 26 = .ok (.istore 5, 2) := dz_at dqX10_goDay_p111 4 rfl
theorem dX10_goDay_28 : decode cX10_goDay 28 = .ok (.aload_n 0, 1) := dz_at dqX10_goDay_p111 5 rfl
theorem dX10_goDay_29 : decode cX10_goDay 29 = .ok (.getfield 32, 3) := dz_at dqX10_goDay_p111 6 rfl
theorem dX10_goDay_32 : decode cX10_goDay 32 = .ok (.iload_n 3, 1) := dz_at dqX10_goDay_p111 7 rfl
theorem dX10_goDay_33 : decode cX10_goDay 33 = .ok (.iaload, 1) := dz_at dqX10_goDay_p111 8 rfl
theorem dX10_goDay_34 : decode cX10_goDay 34 = .ok (.iconst (-1), 1) := dz_at dqX10_goDay_p111 9 rfl
theorem dX10_goDay_35 : decode cX10_goDay 35 = .ok (.if_icmp .ne 7, 3) := dz_at dqX10_goDay_p111 10 rfl
theorem dX10_goDay_38 : decode cX10_goDay 38 = .ok (.iconst 0, 1) := dz_at dqX10_goDay_p111 11 rfl
theorem dX10_goDay_39 : decode cX10_goDay 39 = .ok (.goto 22, 3) := dz_at dqX10_goDay_p111 12 rfl
theorem dX10_goDay_42 : decode cX10_goDay 42 = .ok (.iload 4, 2) := dz_at dqX10_goDay_p111 13 rfl
set_option maxRecDepth 20000 in
theorem dqX10_goDay_p112 : dz_rn 44 (cX10_goDay.data.toList.drop 44) [(0, 4), (3, 0), (1, 0), (2, 0), (0, 27), (0, 10), (0, 26), (0, 4), (0, 3), (3, 1), (0, 26), (1, 1), (1, 0), (0, 4)] = some [(44, .aload_n 0, 1), (45, .getfield 29, 3), (48, .iload 4, 2), (50, .bipush 10, 2), (52, .idiv, 1), (53, .iaload, 1), (54, .isub, 1), (55, .aload_n 0, 1), (56, .iload_n 3, 1), (57, .invokevirtual 128, 3), (60, .isub, 1), (61, .istore 4, 2), (63, .iload 5, 2), (65, .aload_n 0, 1)] := by decide +kernel
theorem dX10_goDay_44 : decode cX10_goDay 44 = .ok (.aload_n 0, 1) := dz_at dqX10_goDay_p112 0 rfl
theorem dX10_goDay_45 : decode cX10_goDay 45 = .ok (.getfield 29, 3) := dz_at dqX10_goDay_p112 1 rfl
theorem dX10_goDay_48 : decode cX10_goDay 48 = .ok (.iload 4, 2) := dz_at dqX10_goDay_p112 2 rfl
theorem dX10_goDay_50 : decode cX10_goDay 50 = .ok (.bipush 10, 2) := dz_at dqX10_goDay_p112 3 rfl
theorem dX10_goDay_52 : decode cX10_goDay 52 = .ok (.idiv, 1) := dz_at dqX10_goDay_p112 4 rfl
theorem dX10_goDay_53 : decode cX10_goDay 53 = .ok (.iaload, 1) := dz_at dqX10_goDay_p112 5 rfl
theorem dX10_goDay_54 : decode cX10_goDay 54 = .ok (.isub, 1) := dz_at dqX10_goDay_p112 6 rfl
theorem dX10_goDay_55 : decode cX10_goDay 55 = .ok (.aload_n 0, 1) := dz_at dqX10_goDay_p112 7 rfl
theorem dX10_goDay_56 : decode cX10_goDay 56 = .ok (.iload_n 3, 1) := dz_at dqX10_goDay_p112 8 rfl
theorem dX10_goDay_57 : decode cX10_goDay 57 = .ok (.invokevirtual 128, 3) := dz_at dqX10_goDay_p112 9 rfl
theorem dX10_goDay_60 : decode cX10_goDay 60 = .ok (.isub, 1) := dz_at dqX10_goDay_p112 10 rfl
theorem dX10_goDay_61 : decode cX10_goDay 61 = .ok (.istore 4, 2) := dz_at dqX10_goDay_p112 11 rfl
theorem dX10_goDay_63 : decode cX10_goDay 63 = .ok (.iload 5, 2) := dz_at dqX10_goDay_p112 12 rfl
theorem dX10_goDay_65 : decode cX10_goDay 65 = .ok (.aload_n 0, 1) := dz_at dqX10_goDay_p112 13 rfl
set_option maxRecDepth 20000 in
theorem dqX10_goDay_p113 : dz_rn 66 (cX10_goDay.data.toList.drop 66) [(3, 0), (1, 0), (2, 0), (0, 27), (0, 10), (0, 26), (1, 1), (0, 4), (3, 0), (0, 2), (0, 3), (0, 11), (1, 0), (4, 10)] = some [(66, .getfield 29, 3), (69, .iload 5, 2), (71, .bipush 10, 2), (73, .idiv, 1), (74, .iaload, 1), (75, .isub, 1), (76, .istore 5, 2), (78, .aload_n 0, 1), (79, .getfield 50, 3), (82, .iload_n 2, 1), (83, .iload_n 3, 1), (84, .iadd, 1), (85, .iload 4, 2), (87, .ifCond .ge 7, 3)] := by decide +kernel
theorem dX10_goDay_66 : decode cX10_goDay 66 = .ok (.getfield 29, 3) := dz_at dqX10_goDay_p113 0 rfl
theorem dX10_goDay_69 : decode cX10_goDay 69 = .ok (.iload 5, 2) := dz_at dqX10_goDay_p113 1 rfl
theorem dX10_goDay_71 : decode cX10_goDay 71 = .ok (.bipush 10, 2) := dz_at dqX10_goDay_p113 2 rfl
theorem dX10_goDay_73 : decode cX10_goDay 73 = .ok (.idiv, 1) := dz_at dqX10_goDay_p113 3 rfl
theorem dX10_goDay_74 : decode cX10_goDay 74 = .ok (.iaload, 1) := dz_at dqX10_goDay_p113 4 rfl
theorem dX10_goDay_75 : decode cX10_goDay 75 = .ok (.isub, 1) := dz_at dqX10_goDay_p113 5 rfl
theorem dX10_goDay_76 : decode cX10_goDay 76 = .ok (.istore 5, 2) := dz_at dqX10_goDay_p113 6 rfl
theorem dX10_goDay_78 : decode cX10_goDay 78 = .ok (.aload_n 0, 1) := dz_at dqX10_goDay_p113 7 rfl
theorem dX10_goDay_79 : decode cX10_goDay 79 = .ok (.getfield 50, 3) := dz_at dqX10_goDay_p113 8 rfl
theorem dX10_goDay_82 : decode cX10_goDay 82 = .ok (.iload_n 2, 1) := dz_at dqX10_goDay_p113 9 rfl
theorem dX10_goDay_83 : decode cX10_goDay 83 = .ok (.iload_n 3, 1) := dz_at dqX10_goDay_p113 10 rfl
theorem dX10_goDay_84 : decode cX10_goDay 84 = .ok (.iadd, 1) := dz_at dqX10_goDay_p113 11 rfl
theorem dX10_goDay_85 : decode cX10_goDay 85 = .ok (.iload 4, 2) := dz_at dqX10_goDay_p113 12 rfl
theorem dX10_goDay_87 : decode cX10_goDay 87 = .ok (.ifCond .ge 7, 3) := dz_at dqX10_goDay_p113 13 rfl
set_option maxRecDepth 20000 in
theorem dqX10_goDay_p114 : dz_rn 90 (cX10_goDay.data.toList.drop 90) [(0, 8), (4, 0), (1, 0), (0, 22), (0, 4), (3, 0), (0, 2), (0, 3), (0, 11), (1, 0), (4, 10), (0, 8), (4, 0), (1, 0)] = some [(90, .iconst 0, 1), (91, .goto 5, 3), (94, .iload 4, 2), (96, .iastore, 1), (97, .aload_n 0, 1), (98, .getfield 53, 3), (101, .iload_n 2, 1), (102, .iload_n 3, 1), (103, .iadd, 1), (104, .iload 5, 2), (106, .ifCond .ge 7, 3), (109, .iconst 0, 1), (110, .goto 5, 3), (113, .iload 5, 2)] := by decide +kernel
theorem dX10_goDay_90 : decode cX10_goDay 90 = .ok (.iconst 0, 1) := dz_at dqX10_goDay_p114 0 rfl
theorem dX10_goDay_91 : decode cX10_goDay 91 = .ok (.goto 5, 3) := dz_at dqX10_goDay_p114 1 rfl
theorem dX10_goDay_94 : decode cX10_goDay 94 = .ok (.iload 4, 2) := dz_at dqX10_goDay_p114 2 rfl
theorem dX10_goDay_96 : decode cX10_goDay 96 = .ok (.iastore, 1) := dz_at dqX10_goDay_p114 3 rfl
theorem dX10_goDay_97 : decode cX10_goDay 97 = .ok (.aload_n 0, 1) := dz_at dqX10_goDay_p114 4 rfl
theorem dX10_goDay_98 : decode cX10_goDay 98 = .ok (.getfield 53, 3) := dz_at dqX10_goDay_p114 5 rfl
theorem dX10_goDay_101 : decode cX10_goDay 101 = .ok (.iload_n 2, 1) := dz_at dqX10_goDay_p114 6 rfl
theorem dX10_goDay_102 : decode cX10_goDay 102 = .ok (.iload_n 3, 1) := dz_at dqX10_goDay_p114 7 rfl
theorem dX10_goDay_103 : decode cX10_goDay 103 = .ok (.iadd, 1) := dz_at dqX10_goDay_p114 8 rfl
theorem dX10_goDay_104 : decode cX10_goDay 104 = .ok (.iload 5, 2) := dz_at dqX10_goDay_p114 9 rfl
theorem dX10_goDay_106 : decode cX10_goDay 106 = .ok (.ifCond .ge 7, 3) := dz_at dqX10_goDay_p114 10 rfl
theorem dX10_goDay_109 : decode cX10_goDay 109 = .ok (.iconst 0, 1) := dz_at dqX10_goDay_p114 11 rfl
theorem dX10_goDay_110 : decode cX10_goDay 110 = .ok (.goto 5, 3) := dz_at dqX10_goDay_p114 12 rfl
theorem dX10_goDay_113 : decode cX10_goDay 113 = .ok (.iload 5, 2) := dz_at dqX10_goDay_p114 13 rfl
set_option maxRecDepth 20000 in
theorem dqX10_goDay_p115 : dz_rn 115 (cX10_goDay.data.toList.drop 115) [(0, 22), (5, 0), (4, 0), (0, 25)] = some [(115, .iastore, 1), (116, .iinc 3 1, 3), (119, .goto (-117), 3), (122, .return_, 1)] := by decide +kernel
theorem dX10_goDay_115 : decode cX10_goDay 115 = .ok (.iastore, 1) := dz_at dqX10_goDay_p115 0 rfl
theorem dX10_goDay_116 : decode cX10_goDay 116 = .ok (.iinc 3 1, 3) := dz_at dqX10_goDay_p115 1 rfl
theorem dX10_goDay_119 : decode cX10_goDay 119 = .ok (.goto (-117), 3) := dz_at dqX10_goDay_p115 2 rfl
theorem dX10_goDay_122 : decode cX10_goDay 122 = .ok (.return_, 1) := dz_at dqX10_goDay_p115 3 rfl
set_option maxRecDepth 20000 in
theorem dqX10_lookAhead_p110 : dz_rn 0 (cX10_lookAhead.data.toList.drop 0) [(0, 8), (0, 19), (0, 1), (2, 0), (4, 4), (0, 4), (3, 0), (0, 1), (0, 4), (3, 0), (0, 1), (0, 10), (0, 13), (4, 2)] = some [(0, .iconst 0, 1), (1, .istore_n 1, 1), (2, .iload_n 1, 1), (3, .bipush 48, 2), (5, .if_icmp .ge 61, 3), (8, .aload_n 0, 1), (9, .getfield 50, 3), (12, .iload_n 1, 1), (13, .aload_n 0, 1), (14, .getfield 32, 3), (17, .iload_n 1, 1), (18, .iaload, 1), (19, .iconst (-1), 1), (20, .if_icmp .ne 7, 3)] := by decide +kernel
theorem dX10_lookAhead_0 : decode cX10_lookAhead 0 = .ok (.iconst 0, 1) := dz_at dqX10_lookAhead_p110 0 rfl
theorem dX10_lookAhead_1 : decode cX10_lookAhead 1 = .ok (.istore_n 1, 1) := dz_at dqX10_lookAhead_p110 1 rfl
theorem dX10_lookAhead_2 : decode cX10_lookAhead 2 = .ok (.iload_n 1, 1) := dz_at dqX10_lookAhead_p110 2 rfl
theorem dX10_lookAhead_3 : decode cX10_lookAhead 3 = .ok (.bipush 48, 2) := dz_at dqX10_lookAhead_p110 3 rfl
theorem dX10_lookAhead_5 : decode cX10_lookAhead 5 = .ok (.if_icmp .ge 61, 3) := dz_at dqX10_lookAhead_p110 4 rfl
theorem dX10_lookAhead_8 : decode cX10_lookAhead 8 = .ok (.aload_n 0, 1) := dz_at dqX10_lookAhead_p110 5 rfl
theorem dX10_lookAhead_9 : decode cX10_lookAhead 9 = .ok (.getfield 50, 3) := dz_at dqX10_lookAhead_p110 6 rfl
theorem dX10_lookAhead_12 : decode cX10_lookAhead 12 = .ok (.iload_n 1, 1) := dz_at dqX10_lookAhead_p110 7 rfl
theorem dX10_lookAhead_13 : decode cX10_lookAhead 13 = .ok (.aload_n 0, 1) := dz_at dqX10_lookAhead_p110 8 rfl
theorem dX10_lookAhead_14 : decode cX10_lookAhead 14 = .ok (.getfield 32, 3) := dz_at dqX10_lookAhead_p110 9 rfl
theorem dX10_lookAhead_17 : decode cX10_lookAhead 17 = .ok (.iload_n 1, 1) := dz_at dqX10_lookAhead_p110 10 rfl
theorem dX10_lookAhead_18 : decode cX10_lookAhead 18 = .ok (.iaload, 1) := dz_at dqX10_lookAhead_p110 11 rfl
theorem dX10_lookAhead_19 : decode cX10_lookAhead 19 = .ok (.iconst (-1), 1) := dz_at dqX10_lookAhead_p110 12 rfl
theorem dX10_lookAhead_20 : decode cX10_lookAhead 20 = .ok (.if_icmp .ne 7, 3) := dz_at dqX10_lookAhead_p110 13 rfl
set_option maxRecDepth 20000 in
theorem dqX10_lookAhead_p111 : dz_rn 23 (cX10_lookAhead.data.toList.drop 23) [(0, 8), (4, 0), (0, 4), (3, 0), (0, 1), (0, 10), (0, 22), (0, 4), (3, 0), (0, 1), (0, 4), (3, 0), (0, 1), (0, 10)] = some [(23, .iconst 0, 1), (24, .goto 9, 3), (27, .aload_n 0, 1), (28, .getfield 35, 3), (31, .iload_n 1, 1), (32, .iaload, 1), (33, .iastore, 1), (34, .aload_n 0, 1), (35, .getfield 53, 3), (38, .iload_n 1, 1), (39, .aload_n 0, 1), (40, .getfield 38, 3), (43, .iload_n 1, 1), (44, .iaload, 1)] := by decide +kernel
theorem dX10_lookAhead_23 : decode cX10_lookAhead 23 = .ok (.iconst 0, 1) := dz_at dqX10_lookAhead_p111 0 rfl
theorem dX10_lookAhead_24 : decode cX10_lookAhead 24 = .ok (.goto 9, 3) := dz_at dqX10_lookAhead_p111 1 rfl
theorem dX10_lookAhead_27 : decode cX10_lookAhead 27 = .ok (.aload_n 0, 1) := dz_at dqX10_lookAhead_p111 2 rfl
theorem dX10_lookAhead_28 : decode cX10_lookAhead 28 = .ok (.getfield 35, 3) := dz_at dqX10_lookAhead_p111 3 rfl
theorem dX10_lookAhead_31 : decode cX10_lookAhead 31 = .ok (.iload_n 1, 1) := dz_at dqX10_lookAhead_p111 4 rfl
theorem dX10_lookAhead_32 : decode cX10_lookAhead 32 = .ok (.iaload, 1) := dz_at dqX10_lookAhead_p111 5 rfl
theorem dX10_lookAhead_33 : decode cX10_lookAhead 33 = .ok (.iastore, 1) := dz_at dqX10_lookAhead_p111 6 rfl
theorem dX10_lookAhead_34 : decode cX10_lookAhead 34 = .ok (.aload_n 0, 1) := dz_at dqX10_lookAhead_p111 7 rfl
theorem dX10_lookAhead_35 : decode cX10_lookAhead 35 = .ok (.getfield 53, 3) := dz_at dqX10_lookAhead_p111 8 rfl
theorem dX10_lookAhead_38 : decode cX10_lookAhead 38 = .ok (.iload_n 1, 1) := dz_at dqX10_lookAhead_p111 9 rfl
theorem dX10_lookAhead_39 : decode cX10_lookAhead 39 = .ok (.aload_n 0, 1) := dz_at dqX10_lookAhead_p111 10 rfl
theorem dX10_lookAhead_40 : decode cX10_lookAhead 40 = .ok (.getfield 38, 3) := dz_at dqX10_lookAhead_p111 11 rfl
theorem dX10_lookAhead_43 : decode cX10_lookAhead 43 = .ok (.iload_n 1, 1) := dz_at dqX10_lookAhead_p111 12 rfl
theorem dX10_lookAhead_44 : decode cX10_lookAhead 44 = .ok (.iaload, 1) := dz_at dqX10_lookAhead_p111 13 rfl
set_option maxRecDepth 20000 in
theorem dqX10_lookAhead_p112 : dz_rn 45 (cX10_lookAhead.data.toList.drop 45) [(0, 13), (4, 2), (0, 8), (4, 0), (0, 4), (3, 0), (0, 1), (0, 10), (0, 22), (5, 0), (4, 0), (0, 25)] = some [(45, .iconst (-1), 1), (46, .if_icmp .ne 7, 3), (49, .iconst 0, 1), (50, .goto 9, 3), (53, .aload_n 0, 1), (54, .getfield 41, 3), (57, .iload_n 1, 1), (58, .iaload, 1), (59, .iastore, 1), (60, .iinc 1 1, 3), (63, .goto (-61), 3), (66, .return_, 1)] := by decide +kernel
theorem dX10_lookAhead_45 : decode cX10_lookAhead 45 = .ok (.iconst (-1), 1) := dz_at dqX10_lookAhead_p112 0 rfl
theorem dX10_lookAhead_46 : decode cX10_lookAhead 46 = .ok (.if_icmp .ne 7, 3) := dz_at dqX10_lookAhead_p112 1 rfl
theorem dX10_lookAhead_49 : decode cX10_lookAhead 49 = .ok (.iconst 0, 1) := dz_at dqX10_lookAhead_p112 2 rfl
theorem dX10_lookAhead_50 : decode cX10_lookAhead 50 = .ok (.goto 9, 3) := dz_at dqX10_lookAhead_p112 3 rfl
theorem dX10_lookAhead_53 : decode cX10_lookAhead 53 = .ok (.aload_n 0, 1) := dz_at dqX10_lookAhead_p112 4 rfl
theorem dX10_lookAhead_54 : decode cX10_lookAhead 54 = .ok (.getfield 41, 3) := dz_at dqX10_lookAhead_p112 5 rfl
theorem dX10_lookAhead_57 : decode cX10_lookAhead 57 = .ok (.iload_n 1, 1) := dz_at dqX10_lookAhead_p112 6 rfl
theorem dX10_lookAhead_58 : decode cX10_lookAhead 58 = .ok (.iaload, 1) := dz_at dqX10_lookAhead_p112 7 rfl
theorem dX10_lookAhead_59 : decode cX10_lookAhead 59 = .ok (.iastore, 1) := dz_at dqX10_lookAhead_p112 8 rfl
theorem dX10_lookAhead_60 : decode cX10_lookAhead 60 = .ok (.iinc 1 1, 3) := dz_at dqX10_lookAhead_p112 9 rfl
theorem dX10_lookAhead_63 : decode cX10_lookAhead 63 = .ok (.goto (-61), 3) := dz_at dqX10_lookAhead_p112 10 rfl
theorem dX10_lookAhead_66 : decode cX10_lookAhead 66 = .ok (.return_, 1) := dz_at dqX10_lookAhead_p112 11 rfl
set_option maxRecDepth 20000 in
theorem ggX10_days_X10_in : GoodIn wsX10_days wsX10_in := goodIn_r _ [10] rfl (by decide +kernel)
set_option maxRecDepth 20000 in
theorem gX10_days_X10_in : GoodIn wsX10_days (va_wsS RX10 93 yX10_in wsX10_in) := goodIn_app (goodIn_of _ (by decide +kernel)) ggX10_days_X10_in
set_option maxRecDepth 20000 in
theorem ggX10_days_X10_lookAhead : GoodIn wsX10_days wsX10_lookAhead := goodIn_r _ [14, 3, 15, 2, 5, 6, 4, 31, 32, 33, 34, 35, 36, 37, 38, 39, 40, 41, 42, 43, 44, 45, 46, 47, 48, 49, 50, 51, 52, 53, 54, 55, 56, 57, 58, 59, 60, 61, 62, 63, 64, 65, 66, 67, 68, 69] rfl (by decide +kernel)
set_option maxRecDepth 20000 in
theorem gX10_days_X10_lookAhead : GoodIn wsX10_days (wsV RX10 131 RX10 yX10_lookAhead wsX10_lookAhead) := goodIn_app (goodIn_of _ (by decide +kernel)) ggX10_days_X10_lookAhead
set_option maxRecDepth 20000 in
theorem ggX10_days_X10_goDay : GoodIn wsX10_days wsX10_goDay := goodIn_r _ [19, 3, 5, 15, 20, 21, 22, 23, 9, 24, 25, 26, 27, 28, 29, 30, 31, 32, 33, 34, 35, 36, 37, 38, 39, 40, 41, 42, 43, 44, 45, 46, 47, 48, 49, 50, 51, 52, 53, 54, 55, 56, 57, 58, 59, 60, 61, 62, 63, 64, 65, 66, 67, 68, 69] rfl (by decide +kernel)
set_option maxRecDepth 20000 in
theorem gX10_days_X10_goDay : GoodIn wsX10_days (wsV RX10 134 RX10 yX10_goDay wsX10_goDay) := goodIn_app (goodIn_of _ (by decide +kernel)) ggX10_days_X10_goDay
set_option maxRecDepth 20000 in
theorem dqX10_days_p110 : dz_rn 0 (cX10_days.data.toList.drop 0) [(0, 1), (0, 9), (2, 0), (3, 2), (4, 7), (0, 4), (3, 0), (0, 1), (0, 11), (4, 13), (4, 6), (2, 0), (0, 12), (0, 4)] = some [(0, .iload_n 1, 1), (1, .iconst 1, 1), (2, .bipush 60, 2), (4, .invokestatic 93, 3), (7, .ifCond .eq 15, 3), (10, .aload_n 0, 1), (11, .getfield 125, 3), (14, .iload_n 1, 1), (15, .iadd, 1), (16, .sipush 400, 3), (19, .if_icmp .le 6, 3), (22, .bipush (-3), 2), (24, .ireturn, 1), (25, .aload_n 0, 1)] := by decide +kernel
theorem dX10_days_0 : decode cX10_days 0 = .ok (.iload_n 1, 1) := dz_at dqX10_days_p110 0 rfl
theorem dX10_days_1 : decode cX10_days 1 = .ok (.iconst 1, 1) := dz_at dqX10_days_p110 1 rfl
theorem dX10_days_2 : decode cX10_days 2 = .ok (.bipush 60, 2) := dz_at dqX10_days_p110 2 rfl
theorem dX10_days_4 : decode cX10_days 4 = .ok (.invokestatic 93, 3) := dz_at dqX10_days_p110 3 rfl
theorem dX10_days_7 : decode cX10_days 7 = .ok (.ifCond .eq 15, 3) := dz_at dqX10_days_p110 4 rfl
theorem dX10_days_10 : decode cX10_days 10 = .ok (.aload_n 0, 1) := dz_at dqX10_days_p110 5 rfl
theorem dX10_days_11 : decode cX10_days 11 = .ok (.getfield 125, 3) := dz_at dqX10_days_p110 6 rfl
theorem dX10_days_14 : decode cX10_days 14 = .ok (.iload_n 1, 1) := dz_at dqX10_days_p110 7 rfl
theorem dX10_days_15 : decode cX10_days 15 = .ok (.iadd, 1) := dz_at dqX10_days_p110 8 rfl
theorem dX10_days_16 : decode cX10_days 16 = .ok (.sipush 400, 3) := dz_at dqX10_days_p110 9 rfl
theorem dX10_days_19 : decode cX10_days 19 = .ok (.if_icmp .le 6, 3) := dz_at dqX10_days_p110 10 rfl
theorem dX10_days_22 : decode cX10_days 22 = .ok (.bipush (-3), 2) := dz_at dqX10_days_p110 11 rfl
theorem dX10_days_24 : decode cX10_days 24 = .ok (.ireturn, 1) := dz_at dqX10_days_p110 12 rfl
theorem dX10_days_25 : decode cX10_days 25 = .ok (.aload_n 0, 1) := dz_at dqX10_days_p110 13 rfl
set_option maxRecDepth 20000 in
theorem dqX10_days_p111 : dz_rn 26 (cX10_days.data.toList.drop 26) [(3, 1), (0, 8), (0, 20), (0, 2), (0, 1), (4, 4), (0, 4), (0, 8), (0, 8), (3, 1), (5, 0), (4, 0), (0, 8), (0, 20)] = some [(26, .invokevirtual 131, 3), (29, .iconst 0, 1), (30, .istore_n 2, 1), (31, .iload_n 2, 1), (32, .iload_n 1, 1), (33, .if_icmp .ge 15, 3), (36, .aload_n 0, 1), (37, .iconst 0, 1), (38, .iconst 0, 1), (39, .invokevirtual 134, 3), (42, .iinc 2 1, 3), (45, .goto (-14), 3), (48, .iconst 0, 1), (49, .istore_n 2, 1)] := by decide +kernel
theorem dX10_days_26 : decode cX10_days 26 = .ok (.invokevirtual 131, 3) := dz_at dqX10_days_p111 0 rfl
theorem dX10_days_29 : decode cX10_days 29 = .ok (.iconst 0, 1) := dz_at dqX10_days_p111 1 rfl
theorem dX10_days_30 : decode cX10_days 30 = .ok (.istore_n 2, 1) := dz_at dqX10_days_p111 2 rfl
theorem dX10_days_31 : decode cX10_days 31 = .ok (.iload_n 2, 1) := dz_at dqX10_days_p111 3 rfl
theorem dX10_days_32 : decode cX10_days 32 = .ok (.iload_n 1, 1) := dz_at dqX10_days_p111 4 rfl
theorem dX10_days_33 : decode cX10_days 33 = .ok (.if_icmp .ge 15, 3) := dz_at dqX10_days_p111 5 rfl
theorem dX10_days_36 : decode cX10_days 36 = .ok (.aload_n 0, 1) := dz_at dqX10_days_p111 6 rfl
theorem dX10_days_37 : decode cX10_days 37 = .ok (.iconst 0, 1) := dz_at dqX10_days_p111 7 rfl
theorem dX10_days_38 : decode cX10_days 38 = .ok (.iconst 0, 1) := dz_at dqX10_days_p111 8 rfl
theorem dX10_days_39 : decode cX10_days 39 = .ok (.invokevirtual 134, 3) := dz_at dqX10_days_p111 9 rfl
theorem dX10_days_42 : decode cX10_days 42 = .ok (.iinc 2 1, 3) := dz_at dqX10_days_p111 10 rfl
theorem dX10_days_45 : decode cX10_days 45 = .ok (.goto (-14), 3) := dz_at dqX10_days_p111 11 rfl
theorem dX10_days_48 : decode cX10_days 48 = .ok (.iconst 0, 1) := dz_at dqX10_days_p111 12 rfl
theorem dX10_days_49 : decode cX10_days 49 = .ok (.istore_n 2, 1) := dz_at dqX10_days_p111 13 rfl
set_option maxRecDepth 20000 in
theorem dqX10_days_p112 : dz_rn 50 (cX10_days.data.toList.drop 50) [(0, 2), (2, 0), (4, 4), (0, 4), (3, 0), (0, 2), (0, 4), (3, 0), (0, 2), (0, 10), (0, 22), (0, 4), (3, 0), (0, 2)] = some [(50, .iload_n 2, 1), (51, .bipush 48, 2), (53, .if_icmp .ge 58, 3), (56, .aload_n 0, 1), (57, .getfield 35, 3), (60, .iload_n 2, 1), (61, .aload_n 0, 1), (62, .getfield 50, 3), (65, .iload_n 2, 1), (66, .iaload, 1), (67, .iastore, 1), (68, .aload_n 0, 1), (69, .getfield 41, 3), (72, .iload_n 2, 1)] := by decide +kernel
theorem dX10_days_50 : decode cX10_days 50 = .ok (.iload_n 2, 1) := dz_at dqX10_days_p112 0 rfl
theorem dX10_days_51 : decode cX10_days 51 = .ok (.bipush 48, 2) := dz_at dqX10_days_p112 1 rfl
theorem dX10_days_53 : decode cX10_days 53 = .ok (.if_icmp .ge 58, 3) := dz_at dqX10_days_p112 2 rfl
theorem dX10_days_56 : decode cX10_days 56 = .ok (.aload_n 0, 1) := dz_at dqX10_days_p112 3 rfl
theorem dX10_days_57 : decode cX10_days 57 = .ok (.getfield 35, 3) := dz_at dqX10_days_p112 4 rfl
theorem dX10_days_60 : decode cX10_days 60 = .ok (.iload_n 2, 1) := dz_at dqX10_days_p112 5 rfl
theorem dX10_days_61 : decode cX10_days 61 = .ok (.aload_n 0, 1) := dz_at dqX10_days_p112 6 rfl
theorem dX10_days_62 : decode cX10_days 62 = .ok (.getfield 50, 3) := dz_at dqX10_days_p112 7 rfl
theorem dX10_days_65 : decode cX10_days 65 = .ok (.iload_n 2, 1) := dz_at dqX10_days_p112 8 rfl
theorem dX10_days_66 : decode cX10_days 66 = .ok (.iaload, 1) := dz_at dqX10_days_p112 9 rfl
theorem dX10_days_67 : decode cX10_days 67 = .ok (.iastore, 1) := dz_at dqX10_days_p112 10 rfl
theorem dX10_days_68 : decode cX10_days 68 = .ok (.aload_n 0, 1) := dz_at dqX10_days_p112 11 rfl
theorem dX10_days_69 : decode cX10_days 69 = .ok (.getfield 41, 3) := dz_at dqX10_days_p112 12 rfl
theorem dX10_days_72 : decode cX10_days 72 = .ok (.iload_n 2, 1) := dz_at dqX10_days_p112 13 rfl
set_option maxRecDepth 20000 in
theorem dqX10_days_p113 : dz_rn 73 (cX10_days.data.toList.drop 73) [(0, 4), (3, 0), (0, 2), (0, 10), (0, 22), (0, 4), (3, 0), (0, 2), (0, 4), (3, 0), (0, 2), (0, 10), (4, 8), (0, 13)] = some [(73, .aload_n 0, 1), (74, .getfield 53, 3), (77, .iload_n 2, 1), (78, .iaload, 1), (79, .iastore, 1), (80, .aload_n 0, 1), (81, .getfield 38, 3), (84, .iload_n 2, 1), (85, .aload_n 0, 1), (86, .getfield 41, 3), (89, .iload_n 2, 1), (90, .iaload, 1), (91, .ifCond .ne 7, 3), (94, .iconst (-1), 1)] := by decide +kernel
theorem dX10_days_73 : decode cX10_days 73 = .ok (.aload_n 0, 1) := dz_at dqX10_days_p113 0 rfl
theorem dX10_days_74 : decode cX10_days 74 = .ok (.getfield 53, 3) := dz_at dqX10_days_p113 1 rfl
theorem dX10_days_77 : decode cX10_days 77 = .ok (.iload_n 2, 1) := dz_at dqX10_days_p113 2 rfl
theorem dX10_days_78 : decode cX10_days 78 = .ok (.iaload, 1) := dz_at dqX10_days_p113 3 rfl
theorem dX10_days_79 : decode cX10_days 79 = .ok (.iastore, 1) := dz_at dqX10_days_p113 4 rfl
theorem dX10_days_80 : decode cX10_days 80 = .ok (.aload_n 0, 1) := dz_at dqX10_days_p113 5 rfl
theorem dX10_days_81 : decode cX10_days 81 = .ok (.getfield 38, 3) := dz_at dqX10_days_p113 6 rfl
theorem dX10_days_84 : decode cX10_days 84 = .ok (.iload_n 2, 1) := dz_at dqX10_days_p113 7 rfl
theorem dX10_days_85 : decode cX10_days 85 = .ok (.aload_n 0, 1) := dz_at dqX10_days_p113 8 rfl
theorem dX10_days_86 : decode cX10_days 86 = .ok (.getfield 41, 3) := dz_at dqX10_days_p113 9 rfl
theorem dX10_days_89 : decode cX10_days 89 = .ok (.iload_n 2, 1) := dz_at dqX10_days_p113 10 rfl
theorem dX10_days_90 : decode cX10_days 90 = .ok (.iaload, 1) := dz_at dqX10_days_p113 11 rfl
theorem dX10_days_91 : decode cX10_days 91 = .ok (.ifCond .ne 7, 3) := dz_at dqX10_days_p113 12 rfl
theorem dX10_days_94 : decode cX10_days 94 = .ok (.iconst (-1), 1) := dz_at dqX10_days_p113 13 rfl
set_option maxRecDepth 20000 in
theorem dqX10_days_p114 : dz_rn 95 (cX10_days.data.toList.drop 95) [(4, 0), (0, 4), (3, 0), (0, 2), (0, 10), (0, 22), (5, 0), (4, 0), (0, 4), (0, 28), (3, 0), (0, 1), (0, 11), (3, 3)] = some [(95, .goto 9, 3), (98, .aload_n 0, 1), (99, .getfield 38, 3), (102, .iload_n 2, 1), (103, .iaload, 1), (104, .iastore, 1), (105, .iinc 2 1, 3), (108, .goto (-58), 3), (111, .aload_n 0, 1), (112, .dup, 1), (113, .getfield 125, 3), (116, .iload_n 1, 1), (117, .iadd, 1), (118, .putfield 125, 3)] := by decide +kernel
theorem dX10_days_95 : decode cX10_days 95 = .ok (.goto 9, 3) := dz_at dqX10_days_p114 0 rfl
theorem dX10_days_98 : decode cX10_days 98 = .ok (.aload_n 0, 1) := dz_at dqX10_days_p114 1 rfl
theorem dX10_days_99 : decode cX10_days 99 = .ok (.getfield 38, 3) := dz_at dqX10_days_p114 2 rfl
theorem dX10_days_102 : decode cX10_days 102 = .ok (.iload_n 2, 1) := dz_at dqX10_days_p114 3 rfl
theorem dX10_days_103 : decode cX10_days 103 = .ok (.iaload, 1) := dz_at dqX10_days_p114 4 rfl
theorem dX10_days_104 : decode cX10_days 104 = .ok (.iastore, 1) := dz_at dqX10_days_p114 5 rfl
theorem dX10_days_105 : decode cX10_days 105 = .ok (.iinc 2 1, 3) := dz_at dqX10_days_p114 6 rfl
theorem dX10_days_108 : decode cX10_days 108 = .ok (.goto (-58), 3) := dz_at dqX10_days_p114 7 rfl
theorem dX10_days_111 : decode cX10_days 111 = .ok (.aload_n 0, 1) := dz_at dqX10_days_p114 8 rfl
theorem dX10_days_112 : decode cX10_days 112 = .ok (.dup, 1) := dz_at dqX10_days_p114 9 rfl
theorem dX10_days_113 : decode cX10_days 113 = .ok (.getfield 125, 3) := dz_at dqX10_days_p114 10 rfl
theorem dX10_days_116 : decode cX10_days 116 = .ok (.iload_n 1, 1) := dz_at dqX10_days_p114 11 rfl
theorem dX10_days_117 : decode cX10_days 117 = .ok (.iadd, 1) := dz_at dqX10_days_p114 12 rfl
theorem dX10_days_118 : decode cX10_days 118 = .ok (.putfield 125, 3) := dz_at dqX10_days_p114 13 rfl
set_option maxRecDepth 20000 in
theorem dqX10_days_p115 : dz_rn 121 (cX10_days.data.toList.drop 121) [(0, 4), (3, 0), (0, 12)] = some [(121, .aload_n 0, 1), (122, .getfield 125, 3), (125, .ireturn, 1)] := by decide +kernel
theorem dX10_days_121 : decode cX10_days 121 = .ok (.aload_n 0, 1) := dz_at dqX10_days_p115 0 rfl
theorem dX10_days_122 : decode cX10_days 122 = .ok (.getfield 125, 3) := dz_at dqX10_days_p115 1 rfl
theorem dX10_days_125 : decode cX10_days 125 = .ok (.ireturn, 1) := dz_at dqX10_days_p115 2 rfl
set_option maxRecDepth 20000 in
theorem dqX10_goWalk_p110 : dz_rn 0 (cX10_goWalk.data.toList.drop 0) [(0, 8), (0, 21), (2, 0), (0, 1), (0, 23), (1, 1), (1, 0), (2, 0), (0, 1), (0, 23), (2, 0), (0, 11), (4, 4), (0, 4)] = some [(0, .iconst 0, 1), (1, .istore_n 3, 1), (2, .bipush 6, 2), (4, .iload_n 1, 1), (5, .imul, 1), (6, .istore 4, 2), (8, .iload 4, 2), (10, .bipush 6, 2), (12, .iload_n 1, 1), (13, .imul, 1), (14, .bipush 6, 2), (16, .iadd, 1), (17, .if_icmp .ge 65, 3), (20, .aload_n 0, 1)] := by decide +kernel
theorem dX10_goWalk_0 : decode cX10_goWalk 0 = .ok (.iconst 0, 1) := dz_at dqX10_goWalk_p110 0 rfl
theorem dX10_goWalk_1 : decode cX10_goWalk 1 = .ok (.istore_n 3, 1) := dz_at dqX10_goWalk_p110 1 rfl
theorem dX10_goWalk_2 : decode cX10_goWalk 2 = .ok (.bipush 6, 2) := dz_at dqX10_goWalk_p110 2 rfl
theorem dX10_goWalk_4 : decode cX10_goWalk 4 = .ok (.iload_n 1, 1) := dz_at dqX10_goWalk_p110 3 rfl
theorem dX10_goWalk_5 : decode cX10_goWalk 5 = .ok (.imul, 1) := dz_at dqX10_goWalk_p110 4 rfl
theorem dX10_goWalk_6 : decode cX10_goWalk 6 = .ok (.istore 4, 2) := dz_at dqX10_goWalk_p110 5 rfl
theorem dX10_goWalk_8 : decode cX10_goWalk 8 = .ok (.iload 4, 2) := dz_at dqX10_goWalk_p110 6 rfl
theorem dX10_goWalk_10 : decode cX10_goWalk 10 = .ok (.bipush 6, 2) := dz_at dqX10_goWalk_p110 7 rfl
theorem dX10_goWalk_12 : decode cX10_goWalk 12 = .ok (.iload_n 1, 1) := dz_at dqX10_goWalk_p110 8 rfl
theorem dX10_goWalk_13 : decode cX10_goWalk 13 = .ok (.imul, 1) := dz_at dqX10_goWalk_p110 9 rfl
theorem dX10_goWalk_14 : decode cX10_goWalk 14 = .ok (.bipush 6, 2) := dz_at dqX10_goWalk_p110 10 rfl
theorem dX10_goWalk_16 : decode cX10_goWalk 16 = .ok (.iadd, 1) := dz_at dqX10_goWalk_p110 11 rfl
theorem dX10_goWalk_17 : decode cX10_goWalk 17 = .ok (.if_icmp .ge 65, 3) := dz_at dqX10_goWalk_p110 12 rfl
theorem dX10_goWalk_20 : decode cX10_goWalk 20 = .ok (.aload_n 0, 1) := dz_at dqX10_goWalk_p110 13 rfl
set_option maxRecDepth 20000 in
theorem dqX10_goWalk_p111 : dz_rn 21 (cX10_goWalk.data.toList.drop 21) [(3, 0), (1, 0), (0, 10), (0, 13), (4, 2), (0, 8), (4, 0), (2, 0), (0, 4), (3, 0), (0, 2), (1, 0), (0, 11), (0, 10)] = some [(21, .getfield 32, 3), (24, .iload 4, 2), (26, .iaload, 1), (27, .iconst (-1), 1), (28, .if_icmp .ne 7, 3), (31, .iconst 0, 1), (32, .goto 23, 3), (35, .bipush 100, 2), (37, .aload_n 0, 1), (38, .getfield 50, 3), (41, .iload_n 2, 1), (42, .iload 4, 2), (44, .iadd, 1), (45, .iaload, 1)] := by decide +kernel
theorem dX10_goWalk_21 : decode cX10_goWalk 21 = .ok (.getfield 32, 3) := dz_at dqX10_goWalk_p111 0 rfl
theorem dX10_goWalk_24 : decode cX10_goWalk 24 = .ok (.iload 4, 2) := dz_at dqX10_goWalk_p111 1 rfl
theorem dX10_goWalk_26 : decode cX10_goWalk 26 = .ok (.iaload, 1) := dz_at dqX10_goWalk_p111 2 rfl
theorem dX10_goWalk_27 : decode cX10_goWalk 27 = .ok (.iconst (-1), 1) := dz_at dqX10_goWalk_p111 3 rfl
theorem dX10_goWalk_28 : decode cX10_goWalk 28 = .ok (.if_icmp .ne 7, 3) := dz_at dqX10_goWalk_p111 4 rfl
theorem dX10_goWalk_31 : decode cX10_goWalk 31 = .ok (.iconst 0, 1) := dz_at dqX10_goWalk_p111 5 rfl
theorem dX10_goWalk_32 : decode cX10_goWalk 32 = .ok (.goto 23, 3) := dz_at dqX10_goWalk_p111 6 rfl
theorem dX10_goWalk_35 : decode cX10_goWalk 35 = .ok (.bipush 100, 2) := dz_at dqX10_goWalk_p111 7 rfl
theorem dX10_goWalk_37 : decode cX10_goWalk 37 = .ok (.aload_n 0, 1) := dz_at dqX10_goWalk_p111 8 rfl
theorem dX10_goWalk_38 : decode cX10_goWalk 38 = .ok (.getfield 50, 3) := dz_at dqX10_goWalk_p111 9 rfl
theorem dX10_goWalk_41 : decode cX10_goWalk 41 = .ok (.iload_n 2, 1) := dz_at dqX10_goWalk_p111 10 rfl
theorem dX10_goWalk_42 : decode cX10_goWalk 42 = .ok (.iload 4, 2) := dz_at dqX10_goWalk_p111 11 rfl
theorem dX10_goWalk_44 : decode cX10_goWalk 44 = .ok (.iadd, 1) := dz_at dqX10_goWalk_p111 12 rfl
theorem dX10_goWalk_45 : decode cX10_goWalk 45 = .ok (.iaload, 1) := dz_at dqX10_goWalk_p111 13 rfl
set_option maxRecDepth 20000 in
theorem dqX10_goWalk_p112 : dz_rn 46 (cX10_goWalk.data.toList.drop 46) [(0, 26), (0, 4), (3, 0), (0, 23), (2, 0), (0, 27), (1, 1), (0, 4), (3, 0), (0, 2), (1, 0), (0, 11), (0, 41), (0, 10)] = some [(46, .isub, 1), (47, .aload_n 0, 1), (48, .getfield 26, 3), (51, .imul, 1), (52, .bipush 100, 2), (54, .idiv, 1), (55, .istore 5, 2), (57, .aload_n 0, 1), (58, .getfield 50, 3), (61, .iload_n 2, 1), (62, .iload 4, 2), (64, .iadd, 1), (65, .dup2, 1), (66, .iaload, 1)] := by decide +kernel
theorem dX10_goWalk_46 : decode cX10_goWalk 46 = .ok (.isub, 1) := dz_at dqX10_goWalk_p112 0 rfl
theorem dX10_goWalk_47 : decode cX10_goWalk 47 = .ok (.aload_n 0, 1) := dz_at dqX10_goWalk_p112 1 rfl
theorem dX10_goWalk_48 : decode cX10_goWalk 48 = .ok (.getfield 26, 3) := dz_at dqX10_goWalk_p112 2 rfl
theorem dX10_goWalk_51 : decode cX10_goWalk 51 = .ok (.imul, 1) := dz_at dqX10_goWalk_p112 3 rfl
theorem dX10_goWalk_52 : decode cX10_goWalk 52 = .ok (.bipush 100, 2) := dz_at dqX10_goWalk_p112 4 rfl
theorem dX10_goWalk_54 : decode cX10_goWalk 54 = .ok (.idiv, 1) := dz_at dqX10_goWalk_p112 5 rfl
theorem dX10_goWalk_55 : decode cX10_goWalk 55 = .ok (.istore 5, 2) := dz_at dqX10_goWalk_p112 6 rfl
theorem dX10_goWalk_57 : decode cX10_goWalk 57 = .ok (.aload_n 0, 1) := dz_at dqX10_goWalk_p112 7 rfl
theorem dX10_goWalk_58 : decode cX10_goWalk 58 = .ok (.getfield 50, 3) := dz_at dqX10_goWalk_p112 8 rfl
theorem dX10_goWalk_61 : decode cX10_goWalk 61 = .ok (.iload_n 2, 1) := dz_at dqX10_goWalk_p112 9 rfl
theorem dX10_goWalk_62 : decode cX10_goWalk 62 = .ok (.iload 4, 2) := dz_at dqX10_goWalk_p112 10 rfl
theorem dX10_goWalk_64 : decode cX10_goWalk 64 = .ok (.iadd, 1) := dz_at dqX10_goWalk_p112 11 rfl
theorem dX10_goWalk_65 : decode cX10_goWalk 65 = .ok (.dup2, 1) := dz_at dqX10_goWalk_p112 12 rfl
theorem dX10_goWalk_66 : decode cX10_goWalk 66 = .ok (.iaload, 1) := dz_at dqX10_goWalk_p112 13 rfl
set_option maxRecDepth 20000 in
theorem dqX10_goWalk_p113 : dz_rn 67 (cX10_goWalk.data.toList.drop 67) [(1, 0), (0, 11), (0, 22), (0, 3), (1, 0), (0, 11), (0, 21), (5, 0), (4, 0), (0, 3), (0, 12)] = some [(67, .iload 5, 2), (69, .iadd, 1), (70, .iastore, 1), (71, .iload_n 3, 1), (72, .iload 5, 2), (74, .iadd, 1), (75, .istore_n 3, 1), (76, .iinc 4 1, 3), (79, .goto (-71), 3), (82, .iload_n 3, 1), (83, .ireturn, 1)] := by decide +kernel
theorem dX10_goWalk_67 : decode cX10_goWalk 67 = .ok (.iload 5, 2) := dz_at dqX10_goWalk_p113 0 rfl
theorem dX10_goWalk_69 : decode cX10_goWalk 69 = .ok (.iadd, 1) := dz_at dqX10_goWalk_p113 1 rfl
theorem dX10_goWalk_70 : decode cX10_goWalk 70 = .ok (.iastore, 1) := dz_at dqX10_goWalk_p113 2 rfl
theorem dX10_goWalk_71 : decode cX10_goWalk 71 = .ok (.iload_n 3, 1) := dz_at dqX10_goWalk_p113 3 rfl
theorem dX10_goWalk_72 : decode cX10_goWalk 72 = .ok (.iload 5, 2) := dz_at dqX10_goWalk_p113 4 rfl
theorem dX10_goWalk_74 : decode cX10_goWalk 74 = .ok (.iadd, 1) := dz_at dqX10_goWalk_p113 5 rfl
theorem dX10_goWalk_75 : decode cX10_goWalk 75 = .ok (.istore_n 3, 1) := dz_at dqX10_goWalk_p113 6 rfl
theorem dX10_goWalk_76 : decode cX10_goWalk 76 = .ok (.iinc 4 1, 3) := dz_at dqX10_goWalk_p113 7 rfl
theorem dX10_goWalk_79 : decode cX10_goWalk 79 = .ok (.goto (-71), 3) := dz_at dqX10_goWalk_p113 8 rfl
theorem dX10_goWalk_82 : decode cX10_goWalk 82 = .ok (.iload_n 3, 1) := dz_at dqX10_goWalk_p113 9 rfl
theorem dX10_goWalk_83 : decode cX10_goWalk 83 = .ok (.ireturn, 1) := dz_at dqX10_goWalk_p113 10 rfl
set_option maxRecDepth 20000 in
theorem ggX10_walk_X10_isRoom : GoodIn wsX10_walk wsX10_isRoom := goodIn_r _ [8, 9, 10, 7, 11] rfl (by decide +kernel)
set_option maxRecDepth 20000 in
theorem gX10_walk_X10_isRoom : GoodIn wsX10_walk (va_wsS RX10 100 yX10_isRoom wsX10_isRoom) := goodIn_app (goodIn_of _ (by decide +kernel)) ggX10_walk_X10_isRoom
set_option maxRecDepth 20000 in
theorem ggX10_walk_X10_lookAhead : GoodIn wsX10_walk wsX10_lookAhead := goodIn_r _ [15, 2, 16, 1, 17, 18, 19, 25, 26, 27, 28, 29, 30, 31, 32, 33, 34, 35, 36, 37, 38, 39, 40, 41, 42, 43, 44, 45, 46, 47, 48, 49, 50, 51, 52, 53, 54, 55, 56, 57, 58, 59, 60, 61, 62, 63] rfl (by decide +kernel)
set_option maxRecDepth 20000 in
theorem gX10_walk_X10_lookAhead : GoodIn wsX10_walk (wsV RX10 131 RX10 yX10_lookAhead wsX10_lookAhead) := goodIn_app (goodIn_of _ (by decide +kernel)) ggX10_walk_X10_lookAhead
set_option maxRecDepth 20000 in
theorem ggX10_walk_X10_goWalk : GoodIn wsX10_walk wsX10_goWalk := goodIn_r _ [23, 16, 2, 24, 25, 26, 27, 28, 29, 30, 31, 32, 33, 34, 35, 36, 37, 38, 39, 40, 41, 42, 43, 44, 45, 46, 47, 48, 49, 50, 51, 52, 53, 54, 55, 56, 57, 58, 59, 60, 61, 62, 63] rfl (by decide +kernel)
set_option maxRecDepth 20000 in
theorem gX10_walk_X10_goWalk : GoodIn wsX10_walk (wsV RX10 138 RX10 yX10_goWalk wsX10_goWalk) := goodIn_app (goodIn_of _ (by decide +kernel)) ggX10_walk_X10_goWalk
set_option maxRecDepth 20000 in
theorem dqX10_walk_p110 : dz_rn 0 (cX10_walk.data.toList.drop 0) [(0, 1), (3, 2), (4, 8), (2, 0), (0, 12), (0, 4), (3, 1), (0, 4), (0, 1), (0, 8), (3, 1), (0, 20), (2, 0), (0, 1)] = some [(0, .iload_n 1, 1), (1, .invokestatic 100, 3), (4, .ifCond .ne 6, 3), (7, .bipush (-2), 2), (9, .ireturn, 1), (10, .aload_n 0, 1), (11, .invokevirtual 131, 3), (14, .aload_n 0, 1), (15, .iload_n 1, 1), (16, .iconst 0, 1), (17, .invokevirtual 138, 3), (20, .istore_n 2, 1), (21, .bipush 6, 2), (23, .iload_n 1, 1)] := by decide +kernel
theorem dX10_walk_0 : decode cX10_walk 0 = .ok (.iload_n 1, 1) := dz_at dqX10_walk_p110 0 rfl
theorem dX10_walk_1 : decode cX10_walk 1 = .ok (.invokestatic 100, 3) := dz_at dqX10_walk_p110 1 rfl
theorem dX10_walk_4 : decode cX10_walk 4 = .ok (.ifCond .ne 6, 3) := dz_at dqX10_walk_p110 2 rfl
theorem dX10_walk_7 : decode cX10_walk 7 = .ok (.bipush (-2), 2) := dz_at dqX10_walk_p110 3 rfl
theorem dX10_walk_9 : decode cX10_walk 9 = .ok (.ireturn, 1) := dz_at dqX10_walk_p110 4 rfl
theorem dX10_walk_10 : decode cX10_walk 10 = .ok (.aload_n 0, 1) := dz_at dqX10_walk_p110 5 rfl
theorem dX10_walk_11 : decode cX10_walk 11 = .ok (.invokevirtual 131, 3) := dz_at dqX10_walk_p110 6 rfl
theorem dX10_walk_14 : decode cX10_walk 14 = .ok (.aload_n 0, 1) := dz_at dqX10_walk_p110 7 rfl
theorem dX10_walk_15 : decode cX10_walk 15 = .ok (.iload_n 1, 1) := dz_at dqX10_walk_p110 8 rfl
theorem dX10_walk_16 : decode cX10_walk 16 = .ok (.iconst 0, 1) := dz_at dqX10_walk_p110 9 rfl
theorem dX10_walk_17 : decode cX10_walk 17 = .ok (.invokevirtual 138, 3) := dz_at dqX10_walk_p110 10 rfl
theorem dX10_walk_20 : decode cX10_walk 20 = .ok (.istore_n 2, 1) := dz_at dqX10_walk_p110 11 rfl
theorem dX10_walk_21 : decode cX10_walk 21 = .ok (.bipush 6, 2) := dz_at dqX10_walk_p110 12 rfl
theorem dX10_walk_23 : decode cX10_walk 23 = .ok (.iload_n 1, 1) := dz_at dqX10_walk_p110 13 rfl
set_option maxRecDepth 20000 in
theorem dqX10_walk_p111 : dz_rn 24 (cX10_walk.data.toList.drop 24) [(0, 23), (0, 21), (0, 3), (2, 0), (0, 1), (0, 23), (2, 0), (0, 11), (4, 4), (0, 4), (3, 0), (0, 3), (0, 4), (3, 0)] = some [(24, .imul, 1), (25, .istore_n 3, 1), (26, .iload_n 3, 1), (27, .bipush 6, 2), (29, .iload_n 1, 1), (30, .imul, 1), (31, .bipush 6, 2), (33, .iadd, 1), (34, .if_icmp .ge 21, 3), (37, .aload_n 0, 1), (38, .getfield 35, 3), (41, .iload_n 3, 1), (42, .aload_n 0, 1), (43, .getfield 50, 3)] := by decide +kernel
theorem dX10_walk_24 : decode cX10_walk 24 = .ok (.imul, 1) := dz_at dqX10_walk_p111 0 rfl
theorem dX10_walk_25 : decode cX10_walk 25 = .ok (.istore_n 3, 1) := dz_at dqX10_walk_p111 1 rfl
theorem dX10_walk_26 : decode cX10_walk 26 = .ok (.iload_n 3, 1) := dz_at dqX10_walk_p111 2 rfl
theorem dX10_walk_27 : decode cX10_walk 27 = .ok (.bipush 6, 2) := dz_at dqX10_walk_p111 3 rfl
theorem dX10_walk_29 : decode cX10_walk 29 = .ok (.iload_n 1, 1) := dz_at dqX10_walk_p111 4 rfl
theorem dX10_walk_30 : decode cX10_walk 30 = .ok (.imul, 1) := dz_at dqX10_walk_p111 5 rfl
theorem dX10_walk_31 : decode cX10_walk 31 = .ok (.bipush 6, 2) := dz_at dqX10_walk_p111 6 rfl
theorem dX10_walk_33 : decode cX10_walk 33 = .ok (.iadd, 1) := dz_at dqX10_walk_p111 7 rfl
theorem dX10_walk_34 : decode cX10_walk 34 = .ok (.if_icmp .ge 21, 3) := dz_at dqX10_walk_p111 8 rfl
theorem dX10_walk_37 : decode cX10_walk 37 = .ok (.aload_n 0, 1) := dz_at dqX10_walk_p111 9 rfl
theorem dX10_walk_38 : decode cX10_walk 38 = .ok (.getfield 35, 3) := dz_at dqX10_walk_p111 10 rfl
theorem dX10_walk_41 : decode cX10_walk 41 = .ok (.iload_n 3, 1) := dz_at dqX10_walk_p111 11 rfl
theorem dX10_walk_42 : decode cX10_walk 42 = .ok (.aload_n 0, 1) := dz_at dqX10_walk_p111 12 rfl
theorem dX10_walk_43 : decode cX10_walk 43 = .ok (.getfield 50, 3) := dz_at dqX10_walk_p111 13 rfl
set_option maxRecDepth 20000 in
theorem dqX10_walk_p112 : dz_rn 46 (cX10_walk.data.toList.drop 46) [(0, 3), (0, 10), (0, 22), (5, 0), (4, 0), (0, 4), (3, 0), (0, 1), (0, 4), (3, 0), (0, 22), (0, 2), (0, 12)] = some [(46, .iload_n 3, 1), (47, .iaload, 1), (48, .iastore, 1), (49, .iinc 3 1, 3), (52, .goto (-26), 3), (55, .aload_n 0, 1), (56, .getfield 47, 3), (59, .iload_n 1, 1), (60, .aload_n 0, 1), (61, .getfield 125, 3), (64, .iastore, 1), (65, .iload_n 2, 1), (66, .ireturn, 1)] := by decide +kernel
theorem dX10_walk_46 : decode cX10_walk 46 = .ok (.iload_n 3, 1) := dz_at dqX10_walk_p112 0 rfl
theorem dX10_walk_47 : decode cX10_walk 47 = .ok (.iaload, 1) := dz_at dqX10_walk_p112 1 rfl
theorem dX10_walk_48 : decode cX10_walk 48 = .ok (.iastore, 1) := dz_at dqX10_walk_p112 2 rfl
theorem dX10_walk_49 : decode cX10_walk 49 = .ok (.iinc 3 1, 3) := dz_at dqX10_walk_p112 3 rfl
theorem dX10_walk_52 : decode cX10_walk 52 = .ok (.goto (-26), 3) := dz_at dqX10_walk_p112 4 rfl
theorem dX10_walk_55 : decode cX10_walk 55 = .ok (.aload_n 0, 1) := dz_at dqX10_walk_p112 5 rfl
theorem dX10_walk_56 : decode cX10_walk 56 = .ok (.getfield 47, 3) := dz_at dqX10_walk_p112 6 rfl
theorem dX10_walk_59 : decode cX10_walk 59 = .ok (.iload_n 1, 1) := dz_at dqX10_walk_p112 7 rfl
theorem dX10_walk_60 : decode cX10_walk 60 = .ok (.aload_n 0, 1) := dz_at dqX10_walk_p112 8 rfl
theorem dX10_walk_61 : decode cX10_walk 61 = .ok (.getfield 125, 3) := dz_at dqX10_walk_p112 9 rfl
theorem dX10_walk_64 : decode cX10_walk 64 = .ok (.iastore, 1) := dz_at dqX10_walk_p112 10 rfl
theorem dX10_walk_65 : decode cX10_walk 65 = .ok (.iload_n 2, 1) := dz_at dqX10_walk_p112 11 rfl
theorem dX10_walk_66 : decode cX10_walk 66 = .ok (.ireturn, 1) := dz_at dqX10_walk_p112 12 rfl
set_option maxRecDepth 20000 in
theorem ggX10_write_X10_in : GoodIn wsX10_write wsX10_in := goodIn_r _ [7] rfl (by decide +kernel)
set_option maxRecDepth 20000 in
theorem gX10_write_X10_in : GoodIn wsX10_write (va_wsS RX10 93 yX10_in wsX10_in) := goodIn_app (goodIn_of _ (by decide +kernel)) ggX10_write_X10_in
set_option maxRecDepth 20000 in
theorem dqX10_write_p110 : dz_rn 0 (cX10_write.data.toList.drop 0) [(0, 3), (0, 9), (2, 0), (3, 2), (4, 8), (2, 0), (0, 12), (0, 4), (3, 0), (0, 3), (0, 11), (4, 13), (4, 6), (2, 0)] = some [(0, .iload_n 3, 1), (1, .iconst 1, 1), (2, .bipush 8, 2), (4, .invokestatic 93, 3), (7, .ifCond .ne 6, 3), (10, .bipush (-3), 2), (12, .ireturn, 1), (13, .aload_n 0, 1), (14, .getfield 141, 3), (17, .iload_n 3, 1), (18, .iadd, 1), (19, .sipush 160, 3), (22, .if_icmp .le 6, 3), (25, .bipush (-5), 2)] := by decide +kernel
theorem dX10_write_0 : decode cX10_write 0 = .ok (.iload_n 3, 1) := dz_at dqX10_write_p110 0 rfl
theorem dX10_write_1 : decode cX10_write 1 = .ok (.iconst 1, 1) := dz_at dqX10_write_p110 1 rfl
theorem dX10_write_2 : decode cX10_write 2 = .ok (.bipush 8, 2) := dz_at dqX10_write_p110 2 rfl
theorem dX10_write_4 : decode cX10_write 4 = .ok (.invokestatic 93, 3) := dz_at dqX10_write_p110 3 rfl
theorem dX10_write_7 : decode cX10_write 7 = .ok (.ifCond .ne 6, 3) := dz_at dqX10_write_p110 4 rfl
theorem dX10_write_10 : decode cX10_write 10 = .ok (.bipush (-3), 2) := dz_at dqX10_write_p110 5 rfl
theorem dX10_write_12 : decode cX10_write 12 = .ok (.ireturn, 1) := dz_at dqX10_write_p110 6 rfl
theorem dX10_write_13 : decode cX10_write 13 = .ok (.aload_n 0, 1) := dz_at dqX10_write_p110 7 rfl
theorem dX10_write_14 : decode cX10_write 14 = .ok (.getfield 141, 3) := dz_at dqX10_write_p110 8 rfl
theorem dX10_write_17 : decode cX10_write 17 = .ok (.iload_n 3, 1) := dz_at dqX10_write_p110 9 rfl
theorem dX10_write_18 : decode cX10_write 18 = .ok (.iadd, 1) := dz_at dqX10_write_p110 10 rfl
theorem dX10_write_19 : decode cX10_write 19 = .ok (.sipush 160, 3) := dz_at dqX10_write_p110 11 rfl
theorem dX10_write_22 : decode cX10_write 22 = .ok (.if_icmp .le 6, 3) := dz_at dqX10_write_p110 12 rfl
theorem dX10_write_25 : decode cX10_write 25 = .ok (.bipush (-5), 2) := dz_at dqX10_write_p110 13 rfl
set_option maxRecDepth 20000 in
theorem dqX10_write_p111 : dz_rn 27 (cX10_write.data.toList.drop 27) [(0, 12), (0, 8), (1, 1), (1, 0), (0, 3), (4, 4), (0, 4), (3, 0), (0, 4), (3, 0), (1, 0), (0, 11), (0, 35), (2, 0)] = some [(27, .ireturn, 1), (28, .iconst 0, 1), (29, .istore 4, 2), (31, .iload 4, 2), (33, .iload_n 3, 1), (34, .if_icmp .ge 33, 3), (37, .aload_n 0, 1), (38, .getfield 62, 3), (41, .aload_n 0, 1), (42, .getfield 141, 3), (45, .iload 4, 2), (47, .iadd, 1), (48, .lload_n 1, 1), (49, .bipush 8, 2)] := by decide +kernel
theorem dX10_write_27 : decode cX10_write 27 = .ok (.ireturn, 1) := dz_at dqX10_write_p111 0 rfl
theorem dX10_write_28 : decode cX10_write 28 = .ok (.iconst 0, 1) := dz_at dqX10_write_p111 1 rfl
theorem dX10_write_29 : decode cX10_write 29 = .ok (.istore 4, 2) := dz_at dqX10_write_p111 2 rfl
theorem dX10_write_31 : decode cX10_write 31 = .ok (.iload 4, 2) := dz_at dqX10_write_p111 3 rfl
theorem dX10_write_33 : decode cX10_write 33 = .ok (.iload_n 3, 1) := dz_at dqX10_write_p111 4 rfl
theorem dX10_write_34 : decode cX10_write 34 = .ok (.if_icmp .ge 33, 3) := dz_at dqX10_write_p111 5 rfl
theorem dX10_write_37 : decode cX10_write 37 = .ok (.aload_n 0, 1) := dz_at dqX10_write_p111 6 rfl
theorem dX10_write_38 : decode cX10_write 38 = .ok (.getfield 62, 3) := dz_at dqX10_write_p111 7 rfl
theorem dX10_write_41 : decode cX10_write 41 = .ok (.aload_n 0, 1) := dz_at dqX10_write_p111 8 rfl
theorem dX10_write_42 : decode cX10_write 42 = .ok (.getfield 141, 3) := dz_at dqX10_write_p111 9 rfl
theorem dX10_write_45 : decode cX10_write 45 = .ok (.iload 4, 2) := dz_at dqX10_write_p111 10 rfl
theorem dX10_write_47 : decode cX10_write 47 = .ok (.iadd, 1) := dz_at dqX10_write_p111 11 rfl
theorem dX10_write_48 : decode cX10_write 48 = .ok (.lload_n 1, 1) := dz_at dqX10_write_p111 12 rfl
theorem dX10_write_49 : decode cX10_write 49 = .ok (.bipush 8, 2) := dz_at dqX10_write_p111 13 rfl
set_option maxRecDepth 20000 in
theorem dqX10_write_p112 : dz_rn 51 (cX10_write.data.toList.drop 51) [(1, 0), (0, 23), (0, 46), (3, 4), (0, 38)] = some [(51, .iload 4, 2), (53, .imul, 1), (54, .lshr, 1), (55, .ldc2_w 144, 3), (58, .land, 1)] := by decide +kernel
theorem dX10_write_51 : decode cX10_write 51 = .ok (.iload 4, 2) := dz_at dqX10_write_p112 0 rfl
theorem dX10_write_53 : decode cX10_write 53 = .ok (.imul, 1) := dz_at dqX10_write_p112 1 rfl
theorem dX10_write_54 : decode cX10_write 54 = .ok (.lshr, 1) := dz_at dqX10_write_p112 2 rfl
theorem dX10_write_55 : decode cX10_write 55 = .ok (.ldc2_w 144, 3) := dz_at dqX10_write_p112 3 rfl
theorem dX10_write_58 : decode cX10_write 58 = .ok (.land, 1) := dz_at dqX10_write_p112 4 rfl
theorem dX10_write_59 : decode cX10_write 59 = .ok (.l2i, 1) := by decide +kernel
set_option maxRecDepth 20000 in
theorem dqX10_write_p113 : dz_rn 60 (cX10_write.data.toList.drop 60) [(0, 22), (5, 0), (4, 0), (0, 4), (0, 28), (3, 0), (0, 3), (0, 11), (3, 3), (0, 4), (3, 0), (0, 12)] = some [(60, .iastore, 1), (61, .iinc 4 1, 3), (64, .goto (-33), 3), (67, .aload_n 0, 1), (68, .dup, 1), (69, .getfield 141, 3), (72, .iload_n 3, 1), (73, .iadd, 1), (74, .putfield 141, 3), (77, .aload_n 0, 1), (78, .getfield 141, 3), (81, .ireturn, 1)] := by decide +kernel
theorem dX10_write_60 : decode cX10_write 60 = .ok (.iastore, 1) := dz_at dqX10_write_p113 0 rfl
theorem dX10_write_61 : decode cX10_write 61 = .ok (.iinc 4 1, 3) := dz_at dqX10_write_p113 1 rfl
theorem dX10_write_64 : decode cX10_write 64 = .ok (.goto (-33), 3) := dz_at dqX10_write_p113 2 rfl
theorem dX10_write_67 : decode cX10_write 67 = .ok (.aload_n 0, 1) := dz_at dqX10_write_p113 3 rfl
theorem dX10_write_68 : decode cX10_write 68 = .ok (.dup, 1) := dz_at dqX10_write_p113 4 rfl
theorem dX10_write_69 : decode cX10_write 69 = .ok (.getfield 141, 3) := dz_at dqX10_write_p113 5 rfl
theorem dX10_write_72 : decode cX10_write 72 = .ok (.iload_n 3, 1) := dz_at dqX10_write_p113 6 rfl
theorem dX10_write_73 : decode cX10_write 73 = .ok (.iadd, 1) := dz_at dqX10_write_p113 7 rfl
theorem dX10_write_74 : decode cX10_write 74 = .ok (.putfield 141, 3) := dz_at dqX10_write_p113 8 rfl
theorem dX10_write_77 : decode cX10_write 77 = .ok (.aload_n 0, 1) := dz_at dqX10_write_p113 9 rfl
theorem dX10_write_78 : decode cX10_write 78 = .ok (.getfield 141, 3) := dz_at dqX10_write_p113 10 rfl
theorem dX10_write_81 : decode cX10_write 81 = .ok (.ireturn, 1) := dz_at dqX10_write_p113 11 rfl
set_option maxRecDepth 20000 in
theorem dqX10_erase_p110 : dz_rn 0 (cX10_erase.data.toList.drop 0) [(0, 4), (3, 0), (0, 19), (0, 4), (0, 8), (3, 3), (0, 1), (0, 12)] = some [(0, .aload_n 0, 1), (1, .getfield 141, 3), (4, .istore_n 1, 1), (5, .aload_n 0, 1), (6, .iconst 0, 1), (7, .putfield 141, 3), (10, .iload_n 1, 1), (11, .ireturn, 1)] := by decide +kernel
theorem dX10_erase_0 : decode cX10_erase 0 = .ok (.aload_n 0, 1) := dz_at dqX10_erase_p110 0 rfl
theorem dX10_erase_1 : decode cX10_erase 1 = .ok (.getfield 141, 3) := dz_at dqX10_erase_p110 1 rfl
theorem dX10_erase_4 : decode cX10_erase 4 = .ok (.istore_n 1, 1) := dz_at dqX10_erase_p110 2 rfl
theorem dX10_erase_5 : decode cX10_erase 5 = .ok (.aload_n 0, 1) := dz_at dqX10_erase_p110 3 rfl
theorem dX10_erase_6 : decode cX10_erase 6 = .ok (.iconst 0, 1) := dz_at dqX10_erase_p110 4 rfl
theorem dX10_erase_7 : decode cX10_erase 7 = .ok (.putfield 141, 3) := dz_at dqX10_erase_p110 5 rfl
theorem dX10_erase_10 : decode cX10_erase 10 = .ok (.iload_n 1, 1) := dz_at dqX10_erase_p110 6 rfl
theorem dX10_erase_11 : decode cX10_erase 11 = .ok (.ireturn, 1) := dz_at dqX10_erase_p110 7 rfl
