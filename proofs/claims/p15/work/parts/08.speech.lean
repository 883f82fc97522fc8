
set_option maxRecDepth 20000 in
theorem dqX6_init_p080 : dz_rn 0 (cX6_init.data.toList.drop 0) [(0, 4), (3, 5), (0, 4), (2, 0)] = some [(0, .aload_n 0, 1), (1, .invokespecial 3, 3), (4, .aload_n 0, 1), (5, .bipush 8, 2)] := by decide +kernel
theorem dX6_init_0 : decode cX6_init 0 = .ok (.aload_n 0, 1) := dz_at dqX6_init_p080 0 rfl
theorem dX6_init_1 : decode cX6_init 1 = .ok (.invokespecial 3, 3) := dz_at dqX6_init_p080 1 rfl
theorem dX6_init_4 : decode cX6_init 4 = .ok (.aload_n 0, 1) := dz_at dqX6_init_p080 2 rfl
theorem dX6_init_5 : decode cX6_init 5 = .ok (.bipush 8, 2) := dz_at dqX6_init_p080 3 rfl
theorem dX6_init_7 : decode cX6_init 7 = .ok (.newarray .int, 2) := by decide +kernel
set_option maxRecDepth 20000 in
theorem dqX6_init_p081 : dz_rn 9 (cX6_init.data.toList.drop 9) [(3, 3), (0, 4), (2, 0)] = some [(9, .putfield 9, 3), (12, .aload_n 0, 1), (13, .bipush 8, 2)] := by decide +kernel
theorem dX6_init_9 : decode cX6_init 9 = .ok (.putfield 9, 3) := dz_at dqX6_init_p081 0 rfl
theorem dX6_init_12 : decode cX6_init 12 = .ok (.aload_n 0, 1) := dz_at dqX6_init_p081 1 rfl
theorem dX6_init_13 : decode cX6_init 13 = .ok (.bipush 8, 2) := dz_at dqX6_init_p081 2 rfl
theorem dX6_init_15 : decode cX6_init 15 = .ok (.newarray .int, 2) := by decide +kernel
set_option maxRecDepth 20000 in
theorem dqX6_init_p082 : dz_rn 17 (cX6_init.data.toList.drop 17) [(3, 3), (0, 4), (2, 0)] = some [(17, .putfield 15, 3), (20, .aload_n 0, 1), (21, .bipush 64, 2)] := by decide +kernel
theorem dX6_init_17 : decode cX6_init 17 = .ok (.putfield 15, 3) := dz_at dqX6_init_p082 0 rfl
theorem dX6_init_20 : decode cX6_init 20 = .ok (.aload_n 0, 1) := dz_at dqX6_init_p082 1 rfl
theorem dX6_init_21 : decode cX6_init 21 = .ok (.bipush 64, 2) := dz_at dqX6_init_p082 2 rfl
theorem dX6_init_23 : decode cX6_init 23 = .ok (.newarray .int, 2) := by decide +kernel
set_option maxRecDepth 20000 in
theorem dqX6_init_p083 : dz_rn 25 (cX6_init.data.toList.drop 25) [(3, 3), (0, 4), (4, 13)] = some [(25, .putfield 18, 3), (28, .aload_n 0, 1), (29, .sipush 2048, 3)] := by decide +kernel
theorem dX6_init_25 : decode cX6_init 25 = .ok (.putfield 18, 3) := dz_at dqX6_init_p083 0 rfl
theorem dX6_init_28 : decode cX6_init 28 = .ok (.aload_n 0, 1) := dz_at dqX6_init_p083 1 rfl
theorem dX6_init_29 : decode cX6_init 29 = .ok (.sipush 2048, 3) := dz_at dqX6_init_p083 2 rfl
theorem dX6_init_32 : decode cX6_init 32 = .ok (.newarray .int, 2) := by decide +kernel
set_option maxRecDepth 20000 in
theorem dqX6_init_p084 : dz_rn 34 (cX6_init.data.toList.drop 34) [(3, 3), (0, 4), (0, 5), (3, 3), (0, 25)] = some [(34, .putfield 21, 3), (37, .aload_n 0, 1), (38, .aload_n 1, 1), (39, .putfield 24, 3), (42, .return_, 1)] := by decide +kernel
theorem dX6_init_34 : decode cX6_init 34 = .ok (.putfield 21, 3) := dz_at dqX6_init_p084 0 rfl
theorem dX6_init_37 : decode cX6_init 37 = .ok (.aload_n 0, 1) := dz_at dqX6_init_p084 1 rfl
theorem dX6_init_38 : decode cX6_init 38 = .ok (.aload_n 1, 1) := dz_at dqX6_init_p084 2 rfl
theorem dX6_init_39 : decode cX6_init 39 = .ok (.putfield 24, 3) := dz_at dqX6_init_p084 3 rfl
theorem dX6_init_42 : decode cX6_init 42 = .ok (.return_, 1) := dz_at dqX6_init_p084 4 rfl
set_option maxRecDepth 20000 in
theorem ggX6_layOut_X6_sort : GoodIn wsX6_layOut wsX6_sort := goodIn_r _ [5, 6, 48, 49, 50, 51, 52] rfl (by decide +kernel)
set_option maxRecDepth 20000 in
theorem gX6_layOut_X6_sort : GoodIn wsX6_layOut (wsV RX6 28 RX6 yX6_sort wsX6_sort) := goodIn_app (goodIn_of _ (by decide +kernel)) ggX6_layOut_X6_sort
set_option maxRecDepth 20000 in
theorem ggX6_layOut_X6_reckonShared : GoodIn wsX6_layOut wsX6_reckonShared := goodIn_r _ [10, 11, 12, 6, 13, 14, 15, 16, 17, 18, 19, 20, 21, 22, 23, 24, 25, 48, 49, 50, 51, 52, 53] rfl (by decide +kernel)
set_option maxRecDepth 20000 in
theorem gX6_layOut_X6_reckonShared : GoodIn wsX6_layOut (wsV RX6 32 RX6 yX6_reckonShared wsX6_reckonShared) := goodIn_app (goodIn_of _ (by decide +kernel)) ggX6_layOut_X6_reckonShared
set_option maxRecDepth 20000 in
theorem ggX6_layOut_X6_reckonToCome : GoodIn wsX6_layOut wsX6_reckonToCome := goodIn_r _ [29, 30, 31, 32, 33, 4, 34, 35, 36, 37, 38, 11, 39, 40, 41, 42, 48, 49, 50, 51, 52] rfl (by decide +kernel)
set_option maxRecDepth 20000 in
theorem gX6_layOut_X6_reckonToCome : GoodIn wsX6_layOut (wsV RX6 36 RX6 yX6_reckonToCome wsX6_reckonToCome) := goodIn_app (goodIn_of _ (by decide +kernel)) ggX6_layOut_X6_reckonToCome
set_option maxRecDepth 20000 in
theorem ggX6_layOut_X6_toComeAt : GoodIn wsX6_layOut wsX6_toComeAt := goodIn_r _ [42, 30, 48, 49, 50, 51, 52] rfl (by decide +kernel)
set_option maxRecDepth 20000 in
theorem gX6_layOut_X6_toComeAt : GoodIn wsX6_layOut (wsV RX6 39 RX6 yX6_toComeAt wsX6_toComeAt) := goodIn_app (goodIn_of _ (by decide +kernel)) ggX6_layOut_X6_toComeAt
set_option maxRecDepth 20000 in
theorem ggX6_layOut_X6_follow : GoodIn wsX6_layOut wsX6_follow := goodIn_r _ [46, 47, 6, 31, 32, 33, 4, 34, 35, 36, 37, 38, 11, 39, 40, 41, 42, 30, 48, 49, 50, 51, 52] rfl (by decide +kernel)
set_option maxRecDepth 20000 in
theorem gX6_layOut_X6_follow : GoodIn wsX6_layOut (wsV RX6 43 RX6 yX6_follow wsX6_follow) := goodIn_app (goodIn_of _ (by decide +kernel)) ggX6_layOut_X6_follow
set_option maxRecDepth 20000 in
theorem dqX6_layOut_p080 : dz_rn 0 (cX6_layOut.data.toList.drop 0) [(0, 4), (0, 5), (0, 2), (3, 1), (0, 4), (0, 2), (3, 1), (0, 4), (0, 2), (3, 1), (0, 8), (0, 21), (0, 9), (1, 1)] = some [(0, .aload_n 0, 1), (1, .aload_n 1, 1), (2, .iload_n 2, 1), (3, .invokevirtual 28, 3), (6, .aload_n 0, 1), (7, .iload_n 2, 1), (8, .invokevirtual 32, 3), (11, .aload_n 0, 1), (12, .iload_n 2, 1), (13, .invokevirtual 36, 3), (16, .iconst 0, 1), (17, .istore_n 3, 1), (18, .iconst 1, 1), (19, .istore 4, 2)] := by decide +kernel
theorem dX6_layOut_0 : decode cX6_layOut 0 = .ok (.aload_n 0, 1) := dz_at dqX6_layOut_p080 0 rfl
theorem dX6_layOut_1 : decode cX6_layOut 1 = .ok (.aload_n 1, 1) := dz_at dqX6_layOut_p080 1 rfl
theorem dX6_layOut_2 : decode cX6_layOut 2 = .ok (.iload_n 2, 1) := dz_at dqX6_layOut_p080 2 rfl
theorem dX6_layOut_3 : decode cX6_layOut 3 = .ok (.invokevirtual 28, 3) := dz_at dqX6_layOut_p080 3 rfl
theorem dX6_layOut_6 : decode cX6_layOut 6 = .ok (.aload_n 0, 1) := dz_at dqX6_layOut_p080 4 rfl
theorem dX6_layOut_7 : decode cX6_layOut 7 = .ok (.iload_n 2, 1) := dz_at dqX6_layOut_p080 5 rfl
theorem dX6_layOut_8 : decode cX6_layOut 8 = .ok (.invokevirtual 32, 3) := dz_at dqX6_layOut_p080 6 rfl
theorem dX6_layOut_11 : decode cX6_layOut 11 = .ok (.aload_n 0, 1) := dz_at dqX6_layOut_p080 7 rfl
theorem dX6_layOut_12 : decode cX6_layOut 12 = .ok (.iload_n 2, 1) := dz_at dqX6_layOut_p080 8 rfl
theorem dX6_layOut_13 : decode cX6_layOut 13 = .ok (.invokevirtual 36, 3) := dz_at dqX6_layOut_p080 9 rfl
theorem dX6_layOut_16 : decode cX6_layOut 16 = .ok (.iconst 0, 1) := dz_at dqX6_layOut_p080 10 rfl
theorem dX6_layOut_17 : decode cX6_layOut 17 = .ok (.istore_n 3, 1) := dz_at dqX6_layOut_p080 11 rfl
theorem dX6_layOut_18 : decode cX6_layOut 18 = .ok (.iconst 1, 1) := dz_at dqX6_layOut_p080 12 rfl
theorem dX6_layOut_19 : decode cX6_layOut 19 = .ok (.istore 4, 2) := dz_at dqX6_layOut_p080 13 rfl
set_option maxRecDepth 20000 in
theorem dqX6_layOut_p081 : dz_rn 21 (cX6_layOut.data.toList.drop 21) [(1, 0), (0, 2), (4, 4), (0, 4), (0, 9), (1, 0), (0, 31), (1, 0), (3, 1), (0, 4), (0, 9), (0, 3), (0, 31), (0, 3)] = some [(21, .iload 4, 2), (23, .iload_n 2, 1), (24, .if_icmp .ge 33, 3), (27, .aload_n 0, 1), (28, .iconst 1, 1), (29, .iload 4, 2), (31, .ishl, 1), (32, .iload 4, 2), (34, .invokevirtual 39, 3), (37, .aload_n 0, 1), (38, .iconst 1, 1), (39, .iload_n 3, 1), (40, .ishl, 1), (41, .iload_n 3, 1)] := by decide +kernel
theorem dX6_layOut_21 : decode cX6_layOut 21 = .ok (.iload 4, 2) := dz_at dqX6_layOut_p081 0 rfl
theorem dX6_layOut_23 : decode cX6_layOut 23 = .ok (.iload_n 2, 1) := dz_at dqX6_layOut_p081 1 rfl
theorem dX6_layOut_24 : decode cX6_layOut 24 = .ok (.if_icmp .ge 33, 3) := dz_at dqX6_layOut_p081 2 rfl
theorem dX6_layOut_27 : decode cX6_layOut 27 = .ok (.aload_n 0, 1) := dz_at dqX6_layOut_p081 3 rfl
theorem dX6_layOut_28 : decode cX6_layOut 28 = .ok (.iconst 1, 1) := dz_at dqX6_layOut_p081 4 rfl
theorem dX6_layOut_29 : decode cX6_layOut 29 = .ok (.iload 4, 2) := dz_at dqX6_layOut_p081 5 rfl
theorem dX6_layOut_31 : decode cX6_layOut 31 = .ok (.ishl, 1) := dz_at dqX6_layOut_p081 6 rfl
theorem dX6_layOut_32 : decode cX6_layOut 32 = .ok (.iload 4, 2) := dz_at dqX6_layOut_p081 7 rfl
theorem dX6_layOut_34 : decode cX6_layOut 34 = .ok (.invokevirtual 39, 3) := dz_at dqX6_layOut_p081 8 rfl
theorem dX6_layOut_37 : decode cX6_layOut 37 = .ok (.aload_n 0, 1) := dz_at dqX6_layOut_p081 9 rfl
theorem dX6_layOut_38 : decode cX6_layOut 38 = .ok (.iconst 1, 1) := dz_at dqX6_layOut_p081 10 rfl
theorem dX6_layOut_39 : decode cX6_layOut 39 = .ok (.iload_n 3, 1) := dz_at dqX6_layOut_p081 11 rfl
theorem dX6_layOut_40 : decode cX6_layOut 40 = .ok (.ishl, 1) := dz_at dqX6_layOut_p081 12 rfl
theorem dX6_layOut_41 : decode cX6_layOut 41 = .ok (.iload_n 3, 1) := dz_at dqX6_layOut_p081 13 rfl
set_option maxRecDepth 20000 in
theorem dqX6_layOut_p082 : dz_rn 42 (cX6_layOut.data.toList.drop 42) [(3, 1), (4, 4), (1, 0), (0, 21), (5, 0), (4, 0), (0, 4), (0, 9), (0, 3), (0, 31), (0, 3), (3, 1), (1, 1), (0, 4)] = some [(42, .invokevirtual 39, 3), (45, .if_icmp .ge 6, 3), (48, .iload 4, 2), (50, .istore_n 3, 1), (51, .iinc 4 1, 3), (54, .goto (-33), 3), (57, .aload_n 0, 1), (58, .iconst 1, 1), (59, .iload_n 3, 1), (60, .ishl, 1), (61, .iload_n 3, 1), (62, .invokevirtual 39, 3), (65, .istore 4, 2), (67, .aload_n 0, 1)] := by decide +kernel
theorem dX6_layOut_42 : decode cX6_layOut 42 = .ok (.invokevirtual 39, 3) := dz_at dqX6_layOut_p082 0 rfl
theorem dX6_layOut_45 : decode cX6_layOut 45 = .ok (.if_icmp .ge 6, 3) := dz_at dqX6_layOut_p082 1 rfl
theorem dX6_layOut_48 : decode cX6_layOut 48 = .ok (.iload 4, 2) := dz_at dqX6_layOut_p082 2 rfl
theorem dX6_layOut_50 : decode cX6_layOut 50 = .ok (.istore_n 3, 1) := dz_at dqX6_layOut_p082 3 rfl
theorem dX6_layOut_51 : decode cX6_layOut 51 = .ok (.iinc 4 1, 3) := dz_at dqX6_layOut_p082 4 rfl
theorem dX6_layOut_54 : decode cX6_layOut 54 = .ok (.goto (-33), 3) := dz_at dqX6_layOut_p082 5 rfl
theorem dX6_layOut_57 : decode cX6_layOut 57 = .ok (.aload_n 0, 1) := dz_at dqX6_layOut_p082 6 rfl
theorem dX6_layOut_58 : decode cX6_layOut 58 = .ok (.iconst 1, 1) := dz_at dqX6_layOut_p082 7 rfl
theorem dX6_layOut_59 : decode cX6_layOut 59 = .ok (.iload_n 3, 1) := dz_at dqX6_layOut_p082 8 rfl
theorem dX6_layOut_60 : decode cX6_layOut 60 = .ok (.ishl, 1) := dz_at dqX6_layOut_p082 9 rfl
theorem dX6_layOut_61 : decode cX6_layOut 61 = .ok (.iload_n 3, 1) := dz_at dqX6_layOut_p082 10 rfl
theorem dX6_layOut_62 : decode cX6_layOut 62 = .ok (.invokevirtual 39, 3) := dz_at dqX6_layOut_p082 11 rfl
theorem dX6_layOut_65 : decode cX6_layOut 65 = .ok (.istore 4, 2) := dz_at dqX6_layOut_p082 12 rfl
theorem dX6_layOut_67 : decode cX6_layOut 67 = .ok (.aload_n 0, 1) := dz_at dqX6_layOut_p082 13 rfl
set_option maxRecDepth 20000 in
theorem dqX6_layOut_p083 : dz_rn 68 (cX6_layOut.data.toList.drop 68) [(0, 3), (0, 2), (3, 1), (1, 0), (0, 12)] = some [(68, .iload_n 3, 1), (69, .iload_n 2, 1), (70, .invokevirtual 43, 3), (73, .iload 4, 2), (75, .ireturn, 1)] := by decide +kernel
theorem dX6_layOut_68 : decode cX6_layOut 68 = .ok (.iload_n 3, 1) := dz_at dqX6_layOut_p083 0 rfl
theorem dX6_layOut_69 : decode cX6_layOut 69 = .ok (.iload_n 2, 1) := dz_at dqX6_layOut_p083 1 rfl
theorem dX6_layOut_70 : decode cX6_layOut 70 = .ok (.invokevirtual 43, 3) := dz_at dqX6_layOut_p083 2 rfl
theorem dX6_layOut_73 : decode cX6_layOut 73 = .ok (.iload 4, 2) := dz_at dqX6_layOut_p083 3 rfl
theorem dX6_layOut_75 : decode cX6_layOut 75 = .ok (.ireturn, 1) := dz_at dqX6_layOut_p083 4 rfl
set_option maxRecDepth 20000 in
theorem dqX6_sort_p080 : dz_rn 0 (cX6_sort.data.toList.drop 0) [(0, 8), (0, 21), (0, 3), (0, 2), (4, 4), (0, 3), (1, 1), (1, 0), (4, 12), (0, 4), (3, 0), (1, 0), (0, 9), (0, 26)] = some [(0, .iconst 0, 1), (1, .istore_n 3, 1), (2, .iload_n 3, 1), (3, .iload_n 2, 1), (4, .if_icmp .ge 64, 3), (7, .iload_n 3, 1), (8, .istore 4, 2), (10, .iload 4, 2), (12, .ifCond .le 40, 3), (15, .aload_n 0, 1), (16, .getfield 9, 3), (19, .iload 4, 2), (21, .iconst 1, 1), (22, .isub, 1)] := by decide +kernel
theorem dX6_sort_0 : decode cX6_sort 0 = .ok (.iconst 0, 1) := dz_at dqX6_sort_p080 0 rfl
theorem dX6_sort_1 : decode cX6_sort 1 = .ok (.istore_n 3, 1) := dz_at dqX6_sort_p080 1 rfl
theorem dX6_sort_2 : decode cX6_sort 2 = .ok (.iload_n 3, 1) := dz_at dqX6_sort_p080 2 rfl
theorem dX6_sort_3 : decode cX6_sort 3 = .ok (.iload_n 2, 1) := dz_at dqX6_sort_p080 3 rfl
theorem dX6_sort_4 : decode cX6_sort 4 = .ok (.if_icmp .ge 64, 3) := dz_at dqX6_sort_p080 4 rfl
theorem dX6_sort_7 : decode cX6_sort 7 = .ok (.iload_n 3, 1) := dz_at dqX6_sort_p080 5 rfl
theorem dX6_sort_8 : decode cX6_sort 8 = .ok (.istore 4, 2) := dz_at dqX6_sort_p080 6 rfl
theorem dX6_sort_10 : decode cX6_sort 10 = .ok (.iload 4, 2) := dz_at dqX6_sort_p080 7 rfl
theorem dX6_sort_12 : decode cX6_sort 12 = .ok (.ifCond .le 40, 3) := dz_at dqX6_sort_p080 8 rfl
theorem dX6_sort_15 : decode cX6_sort 15 = .ok (.aload_n 0, 1) := dz_at dqX6_sort_p080 9 rfl
theorem dX6_sort_16 : decode cX6_sort 16 = .ok (.getfield 9, 3) := dz_at dqX6_sort_p080 10 rfl
theorem dX6_sort_19 : decode cX6_sort 19 = .ok (.iload 4, 2) := dz_at dqX6_sort_p080 11 rfl
theorem dX6_sort_21 : decode cX6_sort 21 = .ok (.iconst 1, 1) := dz_at dqX6_sort_p080 12 rfl
theorem dX6_sort_22 : decode cX6_sort 22 = .ok (.isub, 1) := dz_at dqX6_sort_p080 13 rfl
