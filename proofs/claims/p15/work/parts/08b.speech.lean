theorem dX6_reckonToCome_33 : decode cX6_reckonToCome 33 = .ok (.iload 4, 2) := dz_at dqX6_reckonToCome_p081 10 rfl
theorem dX6_reckonToCome_35 : decode cX6_reckonToCome 35 = .ok (.iload_n 1, 1) := dz_at dqX6_reckonToCome_p081 11 rfl
theorem dX6_reckonToCome_36 : decode cX6_reckonToCome 36 = .ok (.invokevirtual 51, 3) := dz_at dqX6_reckonToCome_p081 12 rfl
theorem dX6_reckonToCome_39 : decode cX6_reckonToCome 39 = .ok (.istore 5, 2) := dz_at dqX6_reckonToCome_p081 13 rfl
set_option maxRecDepth 20000 in
theorem dqX6_reckonToCome_p082 : dz_rn 41 (cX6_reckonToCome.data.toList.drop 41) [(0, 4), (3, 0), (0, 3), (2, 0), (0, 23), (1, 0), (0, 11), (1, 0), (0, 13), (4, 2), (0, 8), (4, 0), (0, 4), (0, 3)] = some [(41, .aload_n 0, 1), (42, .getfield 21, 3), (45, .iload_n 3, 1), (46, .bipush 8, 2), (48, .imul, 1), (49, .iload 4, 2), (51, .iadd, 1), (52, .iload 5, 2), (54, .iconst (-1), 1), (55, .if_icmp .ne 7, 3), (58, .iconst 0, 1), (59, .goto 12, 3), (62, .aload_n 0, 1), (63, .iload_n 3, 1)] := by decide +kernel
theorem dX6_reckonToCome_41 : decode cX6_reckonToCome 41 = .ok (.aload_n 0, 1) := dz_at dqX6_reckonToCome_p082 0 rfl
theorem dX6_reckonToCome_42 : decode cX6_reckonToCome 42 = .ok (.getfield 21, 3) := dz_at dqX6_reckonToCome_p082 1 rfl
theorem dX6_reckonToCome_45 : decode cX6_reckonToCome 45 = .ok (.iload_n 3, 1) := dz_at dqX6_reckonToCome_p082 2 rfl
theorem dX6_reckonToCome_46 : decode cX6_reckonToCome 46 = .ok (.bipush 8, 2) := dz_at dqX6_reckonToCome_p082 3 rfl
theorem dX6_reckonToCome_48 : decode cX6_reckonToCome 48 = .ok (.imul, 1) := dz_at dqX6_reckonToCome_p082 4 rfl
theorem dX6_reckonToCome_49 : decode cX6_reckonToCome 49 = .ok (.iload 4, 2) := dz_at dqX6_reckonToCome_p082 5 rfl
theorem dX6_reckonToCome_51 : decode cX6_reckonToCome 51 = .ok (.iadd, 1) := dz_at dqX6_reckonToCome_p082 6 rfl
theorem dX6_reckonToCome_52 : decode cX6_reckonToCome 52 = .ok (.iload 5, 2) := dz_at dqX6_reckonToCome_p082 7 rfl
theorem dX6_reckonToCome_54 : decode cX6_reckonToCome 54 = .ok (.iconst (-1), 1) := dz_at dqX6_reckonToCome_p082 8 rfl
theorem dX6_reckonToCome_55 : decode cX6_reckonToCome 55 = .ok (.if_icmp .ne 7, 3) := dz_at dqX6_reckonToCome_p082 9 rfl
theorem dX6_reckonToCome_58 : decode cX6_reckonToCome 58 = .ok (.iconst 0, 1) := dz_at dqX6_reckonToCome_p082 10 rfl
theorem dX6_reckonToCome_59 : decode cX6_reckonToCome 59 = .ok (.goto 12, 3) := dz_at dqX6_reckonToCome_p082 11 rfl
theorem dX6_reckonToCome_62 : decode cX6_reckonToCome 62 = .ok (.aload_n 0, 1) := dz_at dqX6_reckonToCome_p082 12 rfl
theorem dX6_reckonToCome_63 : decode cX6_reckonToCome 63 = .ok (.iload_n 3, 1) := dz_at dqX6_reckonToCome_p082 13 rfl
set_option maxRecDepth 20000 in
theorem dqX6_reckonToCome_p083 : dz_rn 64 (cX6_reckonToCome.data.toList.drop 64) [(1, 0), (1, 0), (3, 1), (0, 22), (5, 0), (4, 0), (5, 0), (4, 0), (0, 25)] = some [(64, .iload 4, 2), (66, .iload 5, 2), (68, .invokevirtual 55, 3), (71, .iastore, 1), (72, .iinc 4 1, 3), (75, .goto (-60), 3), (78, .iinc 3 (-1), 3), (81, .goto (-73), 3), (84, .return_, 1)] := by decide +kernel
theorem dX6_reckonToCome_64 : decode cX6_reckonToCome 64 = .ok (.iload 4, 2) := dz_at dqX6_reckonToCome_p083 0 rfl
theorem dX6_reckonToCome_66 : decode cX6_reckonToCome 66 = .ok (.iload 5, 2) := dz_at dqX6_reckonToCome_p083 1 rfl
theorem dX6_reckonToCome_68 : decode cX6_reckonToCome 68 = .ok (.invokevirtual 55, 3) := dz_at dqX6_reckonToCome_p083 2 rfl
theorem dX6_reckonToCome_71 : decode cX6_reckonToCome 71 = .ok (.iastore, 1) := dz_at dqX6_reckonToCome_p083 3 rfl
theorem dX6_reckonToCome_72 : decode cX6_reckonToCome 72 = .ok (.iinc 4 1, 3) := dz_at dqX6_reckonToCome_p083 4 rfl
theorem dX6_reckonToCome_75 : decode cX6_reckonToCome 75 = .ok (.goto (-60), 3) := dz_at dqX6_reckonToCome_p083 5 rfl
theorem dX6_reckonToCome_78 : decode cX6_reckonToCome 78 = .ok (.iinc 3 (-1), 3) := dz_at dqX6_reckonToCome_p083 6 rfl
theorem dX6_reckonToCome_81 : decode cX6_reckonToCome 81 = .ok (.goto (-73), 3) := dz_at dqX6_reckonToCome_p083 7 rfl
theorem dX6_reckonToCome_84 : decode cX6_reckonToCome 84 = .ok (.return_, 1) := dz_at dqX6_reckonToCome_p083 8 rfl
set_option maxRecDepth 20000 in
theorem ggX6_follow_X6_bestNext : GoodIn wsX6_follow wsX6_bestNext := goodIn_r _ [7, 8, 9, 10, 6, 11, 12, 13, 14, 15, 16, 17, 18, 19, 20, 21, 22] rfl (by decide +kernel)
set_option maxRecDepth 20000 in
theorem gX6_follow_X6_bestNext : GoodIn wsX6_follow (wsV RX6 51 RX6 yX6_bestNext wsX6_bestNext) := goodIn_app (goodIn_of _ (by decide +kernel)) ggX6_follow_X6_bestNext
set_option maxRecDepth 20000 in
theorem dqX6_follow_p080 : dz_rn 0 (cX6_follow.data.toList.drop 0) [(0, 1), (0, 21), (0, 9), (0, 1), (0, 31), (1, 1), (0, 4), (3, 0), (0, 8), (0, 4), (3, 0), (0, 1), (0, 10), (0, 22)] = some [(0, .iload_n 1, 1), (1, .istore_n 3, 1), (2, .iconst 1, 1), (3, .iload_n 1, 1), (4, .ishl, 1), (5, .istore 4, 2), (7, .aload_n 0, 1), (8, .getfield 15, 3), (11, .iconst 0, 1), (12, .aload_n 0, 1), (13, .getfield 9, 3), (16, .iload_n 1, 1), (17, .iaload, 1), (18, .iastore, 1)] := by decide +kernel
theorem dX6_follow_0 : decode cX6_follow 0 = .ok (.iload_n 1, 1) := dz_at dqX6_follow_p080 0 rfl
theorem dX6_follow_1 : decode cX6_follow 1 = .ok (.istore_n 3, 1) := dz_at dqX6_follow_p080 1 rfl
theorem dX6_follow_2 : decode cX6_follow 2 = .ok (.iconst 1, 1) := dz_at dqX6_follow_p080 2 rfl
theorem dX6_follow_3 : decode cX6_follow 3 = .ok (.iload_n 1, 1) := dz_at dqX6_follow_p080 3 rfl
theorem dX6_follow_4 : decode cX6_follow 4 = .ok (.ishl, 1) := dz_at dqX6_follow_p080 4 rfl
theorem dX6_follow_5 : decode cX6_follow 5 = .ok (.istore 4, 2) := dz_at dqX6_follow_p080 5 rfl
theorem dX6_follow_7 : decode cX6_follow 7 = .ok (.aload_n 0, 1) := dz_at dqX6_follow_p080 6 rfl
theorem dX6_follow_8 : decode cX6_follow 8 = .ok (.getfield 15, 3) := dz_at dqX6_follow_p080 7 rfl
theorem dX6_follow_11 : decode cX6_follow 11 = .ok (.iconst 0, 1) := dz_at dqX6_follow_p080 8 rfl
theorem dX6_follow_12 : decode cX6_follow 12 = .ok (.aload_n 0, 1) := dz_at dqX6_follow_p080 9 rfl
theorem dX6_follow_13 : decode cX6_follow 13 = .ok (.getfield 9, 3) := dz_at dqX6_follow_p080 10 rfl
theorem dX6_follow_16 : decode cX6_follow 16 = .ok (.iload_n 1, 1) := dz_at dqX6_follow_p080 11 rfl
theorem dX6_follow_17 : decode cX6_follow 17 = .ok (.iaload, 1) := dz_at dqX6_follow_p080 12 rfl
theorem dX6_follow_18 : decode cX6_follow 18 = .ok (.iastore, 1) := dz_at dqX6_follow_p080 13 rfl
set_option maxRecDepth 20000 in
theorem dqX6_follow_p081 : dz_rn 19 (cX6_follow.data.toList.drop 19) [(0, 9), (1, 1), (1, 0), (0, 2), (4, 4), (0, 4), (1, 0), (0, 3), (0, 2), (3, 1), (1, 1), (1, 0), (0, 13), (4, 2)] = some [(19, .iconst 1, 1), (20, .istore 5, 2), (22, .iload 5, 2), (24, .iload_n 2, 1), (25, .if_icmp .ge 52, 3), (28, .aload_n 0, 1), (29, .iload 4, 2), (31, .iload_n 3, 1), (32, .iload_n 2, 1), (33, .invokevirtual 51, 3), (36, .istore 6, 2), (38, .iload 6, 2), (40, .iconst (-1), 1), (41, .if_icmp .ne 4, 3)] := by decide +kernel
theorem dX6_follow_19 : decode cX6_follow 19 = .ok (.iconst 1, 1) := dz_at dqX6_follow_p081 0 rfl
theorem dX6_follow_20 : decode cX6_follow 20 = .ok (.istore 5, 2) := dz_at dqX6_follow_p081 1 rfl
theorem dX6_follow_22 : decode cX6_follow 22 = .ok (.iload 5, 2) := dz_at dqX6_follow_p081 2 rfl
theorem dX6_follow_24 : decode cX6_follow 24 = .ok (.iload_n 2, 1) := dz_at dqX6_follow_p081 3 rfl
theorem dX6_follow_25 : decode cX6_follow 25 = .ok (.if_icmp .ge 52, 3) := dz_at dqX6_follow_p081 4 rfl
theorem dX6_follow_28 : decode cX6_follow 28 = .ok (.aload_n 0, 1) := dz_at dqX6_follow_p081 5 rfl
theorem dX6_follow_29 : decode cX6_follow 29 = .ok (.iload 4, 2) := dz_at dqX6_follow_p081 6 rfl
theorem dX6_follow_31 : decode cX6_follow 31 = .ok (.iload_n 3, 1) := dz_at dqX6_follow_p081 7 rfl
theorem dX6_follow_32 : decode cX6_follow 32 = .ok (.iload_n 2, 1) := dz_at dqX6_follow_p081 8 rfl
theorem dX6_follow_33 : decode cX6_follow 33 = .ok (.invokevirtual 51, 3) := dz_at dqX6_follow_p081 9 rfl
theorem dX6_follow_36 : decode cX6_follow 36 = .ok (.istore 6, 2) := dz_at dqX6_follow_p081 10 rfl
theorem dX6_follow_38 : decode cX6_follow 38 = .ok (.iload 6, 2) := dz_at dqX6_follow_p081 11 rfl
theorem dX6_follow_40 : decode cX6_follow 40 = .ok (.iconst (-1), 1) := dz_at dqX6_follow_p081 12 rfl
theorem dX6_follow_41 : decode cX6_follow 41 = .ok (.if_icmp .ne 4, 3) := dz_at dqX6_follow_p081 13 rfl
set_option maxRecDepth 20000 in
theorem dqX6_follow_p082 : dz_rn 44 (cX6_follow.data.toList.drop 44) [(0, 25), (0, 4), (3, 0), (1, 0), (0, 4), (3, 0), (1, 0), (0, 10), (0, 22), (1, 0), (0, 9), (1, 0), (0, 31), (0, 39)] = some [(44, .return_, 1), (45, .aload_n 0, 1), (46, .getfield 15, 3), (49, .iload 5, 2), (51, .aload_n 0, 1), (52, .getfield 9, 3), (55, .iload 6, 2), (57, .iaload, 1), (58, .iastore, 1), (59, .iload 4, 2), (61, .iconst 1, 1), (62, .iload 6, 2), (64, .ishl, 1), (65, .ior, 1)] := by decide +kernel
theorem dX6_follow_44 : decode cX6_follow 44 = .ok (.return_, 1) := dz_at dqX6_follow_p082 0 rfl
theorem dX6_follow_45 : decode cX6_follow 45 = .ok (.aload_n 0, 1) := dz_at dqX6_follow_p082 1 rfl
theorem dX6_follow_46 : decode cX6_follow 46 = .ok (.getfield 15, 3) := dz_at dqX6_follow_p082 2 rfl
theorem dX6_follow_49 : decode cX6_follow 49 = .ok (.iload 5, 2) := dz_at dqX6_follow_p082 3 rfl
theorem dX6_follow_51 : decode cX6_follow 51 = .ok (.aload_n 0, 1) := dz_at dqX6_follow_p082 4 rfl
theorem dX6_follow_52 : decode cX6_follow 52 = .ok (.getfield 9, 3) := dz_at dqX6_follow_p082 5 rfl
theorem dX6_follow_55 : decode cX6_follow 55 = .ok (.iload 6, 2) := dz_at dqX6_follow_p082 6 rfl
theorem dX6_follow_57 : decode cX6_follow 57 = .ok (.iaload, 1) := dz_at dqX6_follow_p082 7 rfl
theorem dX6_follow_58 : decode cX6_follow 58 = .ok (.iastore, 1) := dz_at dqX6_follow_p082 8 rfl
theorem dX6_follow_59 : decode cX6_follow 59 = .ok (.iload 4, 2) := dz_at dqX6_follow_p082 9 rfl
theorem dX6_follow_61 : decode cX6_follow 61 = .ok (.iconst 1, 1) := dz_at dqX6_follow_p082 10 rfl
theorem dX6_follow_62 : decode cX6_follow 62 = .ok (.iload 6, 2) := dz_at dqX6_follow_p082 11 rfl
theorem dX6_follow_64 : decode cX6_follow 64 = .ok (.ishl, 1) := dz_at dqX6_follow_p082 12 rfl
theorem dX6_follow_65 : decode cX6_follow 65 = .ok (.ior, 1) := dz_at dqX6_follow_p082 13 rfl
set_option maxRecDepth 20000 in
theorem dqX6_follow_p083 : dz_rn 66 (cX6_follow.data.toList.drop 66) [(1, 1), (1, 0), (0, 21), (5, 0), (4, 0), (0, 25)] = some [(66, .istore 4, 2), (68, .iload 6, 2), (70, .istore_n 3, 1), (71, .iinc 5 1, 3), (74, .goto (-52), 3), (77, .return_, 1)] := by decide +kernel
theorem dX6_follow_66 : decode cX6_follow 66 = .ok (.istore 4, 2) := dz_at dqX6_follow_p083 0 rfl
theorem dX6_follow_68 : decode cX6_follow 68 = .ok (.iload 6, 2) := dz_at dqX6_follow_p083 1 rfl
theorem dX6_follow_70 : decode cX6_follow 70 = .ok (.istore_n 3, 1) := dz_at dqX6_follow_p083 2 rfl
theorem dX6_follow_71 : decode cX6_follow 71 = .ok (.iinc 5 1, 3) := dz_at dqX6_follow_p083 3 rfl
theorem dX6_follow_74 : decode cX6_follow 74 = .ok (.goto (-52), 3) := dz_at dqX6_follow_p083 4 rfl
theorem dX6_follow_77 : decode cX6_follow 77 = .ok (.return_, 1) := dz_at dqX6_follow_p083 5 rfl
set_option maxRecDepth 20000 in
theorem ggX6_bestNext_X6_throughNext : GoodIn wsX6_bestNext wsX6_throughNext := goodIn_r _ [5, 6, 7, 8, 9, 4, 10, 11, 12, 13, 14, 15, 16] rfl (by decide +kernel)
set_option maxRecDepth 20000 in
theorem gX6_bestNext_X6_throughNext : GoodIn wsX6_bestNext (wsV RX6 55 RX6 yX6_throughNext wsX6_throughNext) := goodIn_app (goodIn_of _ (by decide +kernel)) ggX6_bestNext_X6_throughNext
set_option maxRecDepth 20000 in
theorem dqX6_bestNext_p080 : dz_rn 0 (cX6_bestNext.data.toList.drop 0) [(0, 13), (1, 1), (0, 8), (1, 1), (1, 0), (0, 3), (4, 4), (0, 1), (1, 0), (0, 32), (0, 9), (0, 29), (4, 8), (1, 0)] = some [(0, .iconst (-1), 1), (1, .istore 4, 2), (3, .iconst 0, 1), (4, .istore 5, 2), (6, .iload 5, 2), (8, .iload_n 3, 1), (9, .if_icmp .ge 47, 3), (12, .iload_n 1, 1), (13, .iload 5, 2), (15, .ishr, 1), (16, .iconst 1, 1), (17, .iand, 1), (18, .ifCond .ne 32, 3), (21, .iload 4, 2)] := by decide +kernel
theorem dX6_bestNext_0 : decode cX6_bestNext 0 = .ok (.iconst (-1), 1) := dz_at dqX6_bestNext_p080 0 rfl
theorem dX6_bestNext_1 : decode cX6_bestNext 1 = .ok (.istore 4, 2) := dz_at dqX6_bestNext_p080 1 rfl
theorem dX6_bestNext_3 : decode cX6_bestNext 3 = .ok (.iconst 0, 1) := dz_at dqX6_bestNext_p080 2 rfl
theorem dX6_bestNext_4 : decode cX6_bestNext 4 = .ok (.istore 5, 2) := dz_at dqX6_bestNext_p080 3 rfl
theorem dX6_bestNext_6 : decode cX6_bestNext 6 = .ok (.iload 5, 2) := dz_at dqX6_bestNext_p080 4 rfl
theorem dX6_bestNext_8 : decode cX6_bestNext 8 = .ok (.iload_n 3, 1) := dz_at dqX6_bestNext_p080 5 rfl
theorem dX6_bestNext_9 : decode cX6_bestNext 9 = .ok (.if_icmp .ge 47, 3) := dz_at dqX6_bestNext_p080 6 rfl
theorem dX6_bestNext_12 : decode cX6_bestNext 12 = .ok (.iload_n 1, 1) := dz_at dqX6_bestNext_p080 7 rfl
theorem dX6_bestNext_13 : decode cX6_bestNext 13 = .ok (.iload 5, 2) := dz_at dqX6_bestNext_p080 8 rfl
theorem dX6_bestNext_15 : decode cX6_bestNext 15 = .ok (.ishr, 1) := dz_at dqX6_bestNext_p080 9 rfl
theorem dX6_bestNext_16 : decode cX6_bestNext 16 = .ok (.iconst 1, 1) := dz_at dqX6_bestNext_p080 10 rfl
theorem dX6_bestNext_17 : decode cX6_bestNext 17 = .ok (.iand, 1) := dz_at dqX6_bestNext_p080 11 rfl
theorem dX6_bestNext_18 : decode cX6_bestNext 18 = .ok (.ifCond .ne 32, 3) := dz_at dqX6_bestNext_p080 12 rfl
theorem dX6_bestNext_21 : decode cX6_bestNext 21 = .ok (.iload 4, 2) := dz_at dqX6_bestNext_p080 13 rfl
set_option maxRecDepth 20000 in
theorem dqX6_bestNext_p081 : dz_rn 23 (cX6_bestNext.data.toList.drop 23) [(0, 13), (4, 1), (0, 4), (0, 1), (0, 2), (1, 0), (3, 1), (0, 4), (0, 1), (0, 2), (1, 0), (3, 1), (4, 4), (1, 0)] = some [(23, .iconst (-1), 1), (24, .if_icmp .eq 22, 3), (27, .aload_n 0, 1), (28, .iload_n 1, 1), (29, .iload_n 2, 1), (30, .iload 5, 2), (32, .invokevirtual 55, 3), (35, .aload_n 0, 1), (36, .iload_n 1, 1), (37, .iload_n 2, 1), (38, .iload 4, 2), (40, .invokevirtual 55, 3), (43, .if_icmp .ge 7, 3), (46, .iload 5, 2)] := by decide +kernel
