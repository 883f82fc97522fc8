set_option maxRecDepth 20000 in
theorem dqX6_sort_p081 : dz_rn 23 (cX6_sort.data.toList.drop 23) [(0, 10), (0, 5), (0, 3), (0, 10), (4, 6), (0, 4), (3, 0), (1, 0), (0, 4), (3, 0), (1, 0), (0, 9), (0, 26), (0, 10)] = some [(23, .iaload, 1), (24, .aload_n 1, 1), (25, .iload_n 3, 1), (26, .iaload, 1), (27, .if_icmp .le 25, 3), (30, .aload_n 0, 1), (31, .getfield 9, 3), (34, .iload 4, 2), (36, .aload_n 0, 1), (37, .getfield 9, 3), (40, .iload 4, 2), (42, .iconst 1, 1), (43, .isub, 1), (44, .iaload, 1)] := by decide +kernel
theorem dX6_sort_23 : decode cX6_sort 23 = .ok (.iaload, 1) := dz_at dqX6_sort_p081 0 rfl
theorem dX6_sort_24 : decode cX6_sort 24 = .ok (.aload_n 1, 1) := dz_at dqX6_sort_p081 1 rfl
theorem dX6_sort_25 : decode cX6_sort 25 = .ok (.iload_n 3, 1) := dz_at dqX6_sort_p081 2 rfl
theorem dX6_sort_26 : decode cX6_sort 26 = .ok (.iaload, 1) := dz_at dqX6_sort_p081 3 rfl
theorem dX6_sort_27 : decode cX6_sort 27 = .ok (.if_icmp .le 25, 3) := dz_at dqX6_sort_p081 4 rfl
theorem dX6_sort_30 : decode cX6_sort 30 = .ok (.aload_n 0, 1) := dz_at dqX6_sort_p081 5 rfl
theorem dX6_sort_31 : decode cX6_sort 31 = .ok (.getfield 9, 3) := dz_at dqX6_sort_p081 6 rfl
theorem dX6_sort_34 : decode cX6_sort 34 = .ok (.iload 4, 2) := dz_at dqX6_sort_p081 7 rfl
theorem dX6_sort_36 : decode cX6_sort 36 = .ok (.aload_n 0, 1) := dz_at dqX6_sort_p081 8 rfl
theorem dX6_sort_37 : decode cX6_sort 37 = .ok (.getfield 9, 3) := dz_at dqX6_sort_p081 9 rfl
theorem dX6_sort_40 : decode cX6_sort 40 = .ok (.iload 4, 2) := dz_at dqX6_sort_p081 10 rfl
theorem dX6_sort_42 : decode cX6_sort 42 = .ok (.iconst 1, 1) := dz_at dqX6_sort_p081 11 rfl
theorem dX6_sort_43 : decode cX6_sort 43 = .ok (.isub, 1) := dz_at dqX6_sort_p081 12 rfl
theorem dX6_sort_44 : decode cX6_sort 44 = .ok (.iaload, 1) := dz_at dqX6_sort_p081 13 rfl
set_option maxRecDepth 20000 in
theorem dqX6_sort_p082 : dz_rn 45 (cX6_sort.data.toList.drop 45) [(0, 22), (5, 0), (4, 0), (0, 4), (3, 0), (1, 0), (0, 5), (0, 3), (0, 10), (0, 22), (5, 0), (4, 0), (0, 25)] = some [(45, .iastore, 1), (46, .iinc 4 (-1), 3), (49, .goto (-39), 3), (52, .aload_n 0, 1), (53, .getfield 9, 3), (56, .iload 4, 2), (58, .aload_n 1, 1), (59, .iload_n 3, 1), (60, .iaload, 1), (61, .iastore, 1), (62, .iinc 3 1, 3), (65, .goto (-63), 3), (68, .return_, 1)] := by decide +kernel
theorem dX6_sort_45 : decode cX6_sort 45 = .ok (.iastore, 1) := dz_at dqX6_sort_p082 0 rfl
theorem dX6_sort_46 : decode cX6_sort 46 = .ok (.iinc 4 (-1), 3) := dz_at dqX6_sort_p082 1 rfl
theorem dX6_sort_49 : decode cX6_sort 49 = .ok (.goto (-39), 3) := dz_at dqX6_sort_p082 2 rfl
theorem dX6_sort_52 : decode cX6_sort 52 = .ok (.aload_n 0, 1) := dz_at dqX6_sort_p082 3 rfl
theorem dX6_sort_53 : decode cX6_sort 53 = .ok (.getfield 9, 3) := dz_at dqX6_sort_p082 4 rfl
theorem dX6_sort_56 : decode cX6_sort 56 = .ok (.iload 4, 2) := dz_at dqX6_sort_p082 5 rfl
theorem dX6_sort_58 : decode cX6_sort 58 = .ok (.aload_n 1, 1) := dz_at dqX6_sort_p082 6 rfl
theorem dX6_sort_59 : decode cX6_sort 59 = .ok (.iload_n 3, 1) := dz_at dqX6_sort_p082 7 rfl
theorem dX6_sort_60 : decode cX6_sort 60 = .ok (.iaload, 1) := dz_at dqX6_sort_p082 8 rfl
theorem dX6_sort_61 : decode cX6_sort 61 = .ok (.iastore, 1) := dz_at dqX6_sort_p082 9 rfl
theorem dX6_sort_62 : decode cX6_sort 62 = .ok (.iinc 3 1, 3) := dz_at dqX6_sort_p082 10 rfl
theorem dX6_sort_65 : decode cX6_sort 65 = .ok (.goto (-63), 3) := dz_at dqX6_sort_p082 11 rfl
theorem dX6_sort_68 : decode cX6_sort 68 = .ok (.return_, 1) := dz_at dqX6_sort_p082 12 rfl
set_option maxRecDepth 20000 in
theorem ggX6_reckonShared_X2_shared : GoodIn wsX6_reckonShared wsX2_shared := goodIn_r _ [8, 9, 10, 11, 12, 13, 14, 15, 16, 22] rfl (by decide +kernel)
set_option maxRecDepth 20000 in
theorem gX6_reckonShared_X2_shared : GoodIn wsX6_reckonShared (wsV RX6 47 RX2 yX2_shared wsX2_shared) := goodIn_app (goodIn_of _ (by decide +kernel)) ggX6_reckonShared_X2_shared
set_option maxRecDepth 20000 in
theorem dqX6_reckonShared_p080 : dz_rn 0 (cX6_reckonShared.data.toList.drop 0) [(0, 8), (0, 20), (0, 2), (0, 1), (4, 4), (0, 8), (0, 21), (0, 3), (0, 1), (4, 4), (0, 4), (3, 0), (0, 2), (2, 0)] = some [(0, .iconst 0, 1), (1, .istore_n 2, 1), (2, .iload_n 2, 1), (3, .iload_n 1, 1), (4, .if_icmp .ge 52, 3), (7, .iconst 0, 1), (8, .istore_n 3, 1), (9, .iload_n 3, 1), (10, .iload_n 1, 1), (11, .if_icmp .ge 39, 3), (14, .aload_n 0, 1), (15, .getfield 18, 3), (18, .iload_n 2, 1), (19, .bipush 8, 2)] := by decide +kernel
theorem dX6_reckonShared_0 : decode cX6_reckonShared 0 = .ok (.iconst 0, 1) := dz_at dqX6_reckonShared_p080 0 rfl
theorem dX6_reckonShared_1 : decode cX6_reckonShared 1 = .ok (.istore_n 2, 1) := dz_at dqX6_reckonShared_p080 1 rfl
theorem dX6_reckonShared_2 : decode cX6_reckonShared 2 = .ok (.iload_n 2, 1) := dz_at dqX6_reckonShared_p080 2 rfl
theorem dX6_reckonShared_3 : decode cX6_reckonShared 3 = .ok (.iload_n 1, 1) := dz_at dqX6_reckonShared_p080 3 rfl
theorem dX6_reckonShared_4 : decode cX6_reckonShared 4 = .ok (.if_icmp .ge 52, 3) := dz_at dqX6_reckonShared_p080 4 rfl
theorem dX6_reckonShared_7 : decode cX6_reckonShared 7 = .ok (.iconst 0, 1) := dz_at dqX6_reckonShared_p080 5 rfl
theorem dX6_reckonShared_8 : decode cX6_reckonShared 8 = .ok (.istore_n 3, 1) := dz_at dqX6_reckonShared_p080 6 rfl
theorem dX6_reckonShared_9 : decode cX6_reckonShared 9 = .ok (.iload_n 3, 1) := dz_at dqX6_reckonShared_p080 7 rfl
theorem dX6_reckonShared_10 : decode cX6_reckonShared 10 = .ok (.iload_n 1, 1) := dz_at dqX6_reckonShared_p080 8 rfl
theorem dX6_reckonShared_11 : decode cX6_reckonShared 11 = .ok (.if_icmp .ge 39, 3) := dz_at dqX6_reckonShared_p080 9 rfl
theorem dX6_reckonShared_14 : decode cX6_reckonShared 14 = .ok (.aload_n 0, 1) := dz_at dqX6_reckonShared_p080 10 rfl
theorem dX6_reckonShared_15 : decode cX6_reckonShared 15 = .ok (.getfield 18, 3) := dz_at dqX6_reckonShared_p080 11 rfl
theorem dX6_reckonShared_18 : decode cX6_reckonShared 18 = .ok (.iload_n 2, 1) := dz_at dqX6_reckonShared_p080 12 rfl
theorem dX6_reckonShared_19 : decode cX6_reckonShared 19 = .ok (.bipush 8, 2) := dz_at dqX6_reckonShared_p080 13 rfl
set_option maxRecDepth 20000 in
theorem dqX6_reckonShared_p081 : dz_rn 21 (cX6_reckonShared.data.toList.drop 21) [(0, 23), (0, 3), (0, 11), (0, 4), (3, 0), (0, 4), (3, 0), (0, 2), (0, 10), (0, 4), (3, 0), (0, 3), (0, 10), (3, 1)] = some [(21, .imul, 1), (22, .iload_n 3, 1), (23, .iadd, 1), (24, .aload_n 0, 1), (25, .getfield 24, 3), (28, .aload_n 0, 1), (29, .getfield 9, 3), (32, .iload_n 2, 1), (33, .iaload, 1), (34, .aload_n 0, 1), (35, .getfield 9, 3), (38, .iload_n 3, 1), (39, .iaload, 1), (40, .invokevirtual 47, 3)] := by decide +kernel
theorem dX6_reckonShared_21 : decode cX6_reckonShared 21 = .ok (.imul, 1) := dz_at dqX6_reckonShared_p081 0 rfl
theorem dX6_reckonShared_22 : decode cX6_reckonShared 22 = .ok (.iload_n 3, 1) := dz_at dqX6_reckonShared_p081 1 rfl
theorem dX6_reckonShared_23 : decode cX6_reckonShared 23 = .ok (.iadd, 1) := dz_at dqX6_reckonShared_p081 2 rfl
theorem dX6_reckonShared_24 : decode cX6_reckonShared 24 = .ok (.aload_n 0, 1) := dz_at dqX6_reckonShared_p081 3 rfl
theorem dX6_reckonShared_25 : decode cX6_reckonShared 25 = .ok (.getfield 24, 3) := dz_at dqX6_reckonShared_p081 4 rfl
theorem dX6_reckonShared_28 : decode cX6_reckonShared 28 = .ok (.aload_n 0, 1) := dz_at dqX6_reckonShared_p081 5 rfl
theorem dX6_reckonShared_29 : decode cX6_reckonShared 29 = .ok (.getfield 9, 3) := dz_at dqX6_reckonShared_p081 6 rfl
theorem dX6_reckonShared_32 : decode cX6_reckonShared 32 = .ok (.iload_n 2, 1) := dz_at dqX6_reckonShared_p081 7 rfl
theorem dX6_reckonShared_33 : decode cX6_reckonShared 33 = .ok (.iaload, 1) := dz_at dqX6_reckonShared_p081 8 rfl
theorem dX6_reckonShared_34 : decode cX6_reckonShared 34 = .ok (.aload_n 0, 1) := dz_at dqX6_reckonShared_p081 9 rfl
theorem dX6_reckonShared_35 : decode cX6_reckonShared 35 = .ok (.getfield 9, 3) := dz_at dqX6_reckonShared_p081 10 rfl
theorem dX6_reckonShared_38 : decode cX6_reckonShared 38 = .ok (.iload_n 3, 1) := dz_at dqX6_reckonShared_p081 11 rfl
theorem dX6_reckonShared_39 : decode cX6_reckonShared 39 = .ok (.iaload, 1) := dz_at dqX6_reckonShared_p081 12 rfl
theorem dX6_reckonShared_40 : decode cX6_reckonShared 40 = .ok (.invokevirtual 47, 3) := dz_at dqX6_reckonShared_p081 13 rfl
set_option maxRecDepth 20000 in
theorem dqX6_reckonShared_p082 : dz_rn 43 (cX6_reckonShared.data.toList.drop 43) [(0, 22), (5, 0), (4, 0), (5, 0), (4, 0), (0, 25)] = some [(43, .iastore, 1), (44, .iinc 3 1, 3), (47, .goto (-38), 3), (50, .iinc 2 1, 3), (53, .goto (-51), 3), (56, .return_, 1)] := by decide +kernel
theorem dX6_reckonShared_43 : decode cX6_reckonShared 43 = .ok (.iastore, 1) := dz_at dqX6_reckonShared_p082 0 rfl
theorem dX6_reckonShared_44 : decode cX6_reckonShared 44 = .ok (.iinc 3 1, 3) := dz_at dqX6_reckonShared_p082 1 rfl
theorem dX6_reckonShared_47 : decode cX6_reckonShared 47 = .ok (.goto (-38), 3) := dz_at dqX6_reckonShared_p082 2 rfl
theorem dX6_reckonShared_50 : decode cX6_reckonShared 50 = .ok (.iinc 2 1, 3) := dz_at dqX6_reckonShared_p082 3 rfl
theorem dX6_reckonShared_53 : decode cX6_reckonShared 53 = .ok (.goto (-51), 3) := dz_at dqX6_reckonShared_p082 4 rfl
theorem dX6_reckonShared_56 : decode cX6_reckonShared 56 = .ok (.return_, 1) := dz_at dqX6_reckonShared_p082 5 rfl
set_option maxRecDepth 20000 in
theorem ggX6_reckonToCome_X6_bestNext : GoodIn wsX6_reckonToCome wsX6_bestNext := goodIn_r _ [6, 7, 8, 9, 5, 10, 11, 12, 13, 14, 15, 1, 16, 17, 18, 19, 20] rfl (by decide +kernel)
set_option maxRecDepth 20000 in
theorem gX6_reckonToCome_X6_bestNext : GoodIn wsX6_reckonToCome (wsV RX6 51 RX6 yX6_bestNext wsX6_bestNext) := goodIn_app (goodIn_of _ (by decide +kernel)) ggX6_reckonToCome_X6_bestNext
set_option maxRecDepth 20000 in
theorem ggX6_reckonToCome_X6_throughNext : GoodIn wsX6_reckonToCome wsX6_throughNext := goodIn_r _ [10, 11, 12, 13, 14, 5, 15, 1, 16, 17, 18, 19, 20] rfl (by decide +kernel)
set_option maxRecDepth 20000 in
theorem gX6_reckonToCome_X6_throughNext : GoodIn wsX6_reckonToCome (wsV RX6 55 RX6 yX6_throughNext wsX6_throughNext) := goodIn_app (goodIn_of _ (by decide +kernel)) ggX6_reckonToCome_X6_throughNext
set_option maxRecDepth 20000 in
theorem dqX6_reckonToCome_p080 : dz_rn 0 (cX6_reckonToCome.data.toList.drop 0) [(0, 9), (0, 1), (0, 31), (0, 9), (0, 26), (0, 20), (0, 2), (0, 21), (0, 3), (4, 12), (0, 8), (1, 1), (1, 0), (0, 1)] = some [(0, .iconst 1, 1), (1, .iload_n 1, 1), (2, .ishl, 1), (3, .iconst 1, 1), (4, .isub, 1), (5, .istore_n 2, 1), (6, .iload_n 2, 1), (7, .istore_n 3, 1), (8, .iload_n 3, 1), (9, .ifCond .le 75, 3), (12, .iconst 0, 1), (13, .istore 4, 2), (15, .iload 4, 2), (17, .iload_n 1, 1)] := by decide +kernel
theorem dX6_reckonToCome_0 : decode cX6_reckonToCome 0 = .ok (.iconst 1, 1) := dz_at dqX6_reckonToCome_p080 0 rfl
theorem dX6_reckonToCome_1 : decode cX6_reckonToCome 1 = .ok (.iload_n 1, 1) := dz_at dqX6_reckonToCome_p080 1 rfl
theorem dX6_reckonToCome_2 : decode cX6_reckonToCome 2 = .ok (.ishl, 1) := dz_at dqX6_reckonToCome_p080 2 rfl
theorem dX6_reckonToCome_3 : decode cX6_reckonToCome 3 = .ok (.iconst 1, 1) := dz_at dqX6_reckonToCome_p080 3 rfl
theorem dX6_reckonToCome_4 : decode cX6_reckonToCome 4 = .ok (.isub, 1) := dz_at dqX6_reckonToCome_p080 4 rfl
theorem dX6_reckonToCome_5 : decode cX6_reckonToCome 5 = .ok (.istore_n 2, 1) := dz_at dqX6_reckonToCome_p080 5 rfl
theorem dX6_reckonToCome_6 : decode cX6_reckonToCome 6 = .ok (.iload_n 2, 1) := dz_at dqX6_reckonToCome_p080 6 rfl
theorem dX6_reckonToCome_7 : decode cX6_reckonToCome 7 = .ok (.istore_n 3, 1) := dz_at dqX6_reckonToCome_p080 7 rfl
theorem dX6_reckonToCome_8 : decode cX6_reckonToCome 8 = .ok (.iload_n 3, 1) := dz_at dqX6_reckonToCome_p080 8 rfl
theorem dX6_reckonToCome_9 : decode cX6_reckonToCome 9 = .ok (.ifCond .le 75, 3) := dz_at dqX6_reckonToCome_p080 9 rfl
theorem dX6_reckonToCome_12 : decode cX6_reckonToCome 12 = .ok (.iconst 0, 1) := dz_at dqX6_reckonToCome_p080 10 rfl
theorem dX6_reckonToCome_13 : decode cX6_reckonToCome 13 = .ok (.istore 4, 2) := dz_at dqX6_reckonToCome_p080 11 rfl
theorem dX6_reckonToCome_15 : decode cX6_reckonToCome 15 = .ok (.iload 4, 2) := dz_at dqX6_reckonToCome_p080 12 rfl
theorem dX6_reckonToCome_17 : decode cX6_reckonToCome 17 = .ok (.iload_n 1, 1) := dz_at dqX6_reckonToCome_p080 13 rfl
set_option maxRecDepth 20000 in
theorem dqX6_reckonToCome_p081 : dz_rn 18 (cX6_reckonToCome.data.toList.drop 18) [(4, 4), (0, 3), (1, 0), (0, 32), (0, 9), (0, 29), (0, 9), (4, 2), (0, 4), (0, 3), (1, 0), (0, 1), (3, 1), (1, 1)] = some [(18, .if_icmp .ge 60, 3), (21, .iload_n 3, 1), (22, .iload 4, 2), (24, .ishr, 1), (25, .iconst 1, 1), (26, .iand, 1), (27, .iconst 1, 1), (28, .if_icmp .ne 44, 3), (31, .aload_n 0, 1), (32, .iload_n 3, 1), (33, .iload 4, 2), (35, .iload_n 1, 1), (36, .invokevirtual 51, 3), (39, .istore 5, 2)] := by decide +kernel
theorem dX6_reckonToCome_18 : decode cX6_reckonToCome 18 = .ok (.if_icmp .ge 60, 3) := dz_at dqX6_reckonToCome_p081 0 rfl
theorem dX6_reckonToCome_21 : decode cX6_reckonToCome 21 = .ok (.iload_n 3, 1) := dz_at dqX6_reckonToCome_p081 1 rfl
theorem dX6_reckonToCome_22 : decode cX6_reckonToCome 22 = .ok (.iload 4, 2) := dz_at dqX6_reckonToCome_p081 2 rfl
theorem dX6_reckonToCome_24 : decode cX6_reckonToCome 24 = .ok (.ishr, 1) := dz_at dqX6_reckonToCome_p081 3 rfl
theorem dX6_reckonToCome_25 : decode cX6_reckonToCome 25 = .ok (.iconst 1, 1) := dz_at dqX6_reckonToCome_p081 4 rfl
theorem dX6_reckonToCome_26 : decode cX6_reckonToCome 26 = .ok (.iand, 1) := dz_at dqX6_reckonToCome_p081 5 rfl
theorem dX6_reckonToCome_27 : decode cX6_reckonToCome 27 = .ok (.iconst 1, 1) := dz_at dqX6_reckonToCome_p081 6 rfl
theorem dX6_reckonToCome_28 : decode cX6_reckonToCome 28 = .ok (.if_icmp .ne 44, 3) := dz_at dqX6_reckonToCome_p081 7 rfl
theorem dX6_reckonToCome_31 : decode cX6_reckonToCome 31 = .ok (.aload_n 0, 1) := dz_at dqX6_reckonToCome_p081 8 rfl
theorem dX6_reckonToCome_32 : decode cX6_reckonToCome 32 = .ok (.iload_n 3, 1) := dz_at dqX6_reckonToCome_p081 9 rfl
