section
set_option maxRecDepth 20000 in
theorem dqX10_take_p180 : dz_rn 0 (cX10_take.data.toList.drop 0) [(0, 8), (1, 1), (0, 8), (1, 1), (0, 8), (1, 1), (1, 0), (0, 3), (4, 4), (0, 4), (3, 0), (1, 0), (0, 35), (0, 17)] = some [(0, .iconst 0, 1), (1, .istore 4, 2), (3, .iconst 0, 1), (4, .istore 5, 2), (6, .iconst 0, 1), (7, .istore 6, 2), (9, .iload 6, 2), (11, .iload_n 3, 1), (12, .if_icmp .ge 84, 3), (15, .aload_n 0, 1), (16, .getfield 71, 3), (19, .iload 6, 2), (21, .lload_n 1, 1), (22, .iconst 5, 1)] := by decide +kernel
theorem dX10_take_0 : decode cX10_take 0 = .ok (.iconst 0, 1) := dz_at dqX10_take_p180 0 rfl
theorem dX10_take_1 : decode cX10_take 1 = .ok (.istore 4, 2) := dz_at dqX10_take_p180 1 rfl
theorem dX10_take_3 : decode cX10_take 3 = .ok (.iconst 0, 1) := dz_at dqX10_take_p180 2 rfl
theorem dX10_take_4 : decode cX10_take 4 = .ok (.istore 5, 2) := dz_at dqX10_take_p180 3 rfl
theorem dX10_take_6 : decode cX10_take 6 = .ok (.iconst 0, 1) := dz_at dqX10_take_p180 4 rfl
theorem dX10_take_7 : decode cX10_take 7 = .ok (.istore 6, 2) := dz_at dqX10_take_p180 5 rfl
theorem dX10_take_9 : decode cX10_take 9 = .ok (.iload 6, 2) := dz_at dqX10_take_p180 6 rfl
theorem dX10_take_11 : decode cX10_take 11 = .ok (.iload_n 3, 1) := dz_at dqX10_take_p180 7 rfl
theorem dX10_take_12 : decode cX10_take 12 = .ok (.if_icmp .ge 84, 3) := dz_at dqX10_take_p180 8 rfl
theorem dX10_take_15 : decode cX10_take 15 = .ok (.aload_n 0, 1) := dz_at dqX10_take_p180 9 rfl
theorem dX10_take_16 : decode cX10_take 16 = .ok (.getfield 71, 3) := dz_at dqX10_take_p180 10 rfl
theorem dX10_take_19 : decode cX10_take 19 = .ok (.iload 6, 2) := dz_at dqX10_take_p180 11 rfl
theorem dX10_take_21 : decode cX10_take 21 = .ok (.lload_n 1, 1) := dz_at dqX10_take_p180 12 rfl
theorem dX10_take_22 : decode cX10_take 22 = .ok (.iconst 5, 1) := dz_at dqX10_take_p180 13 rfl
set_option maxRecDepth 20000 in
theorem dqX10_take_p181 : dz_rn 23 (cX10_take.data.toList.drop 23) [(1, 0), (0, 23), (0, 46), (3, 4), (0, 38)] = some [(23, .iload 6, 2), (25, .imul, 1), (26, .lshr, 1), (27, .ldc2_w 223, 3), (30, .land, 1)] := by decide +kernel
theorem dX10_take_23 : decode cX10_take 23 = .ok (.iload 6, 2) := dz_at dqX10_take_p181 0 rfl
theorem dX10_take_25 : decode cX10_take 25 = .ok (.imul, 1) := dz_at dqX10_take_p181 1 rfl
theorem dX10_take_26 : decode cX10_take 26 = .ok (.lshr, 1) := dz_at dqX10_take_p181 2 rfl
theorem dX10_take_27 : decode cX10_take 27 = .ok (.ldc2_w 223, 3) := dz_at dqX10_take_p181 3 rfl
theorem dX10_take_30 : decode cX10_take 30 = .ok (.land, 1) := dz_at dqX10_take_p181 4 rfl
theorem dX10_take_31 : decode cX10_take 31 = .ok (.l2i, 1) := by decide +kernel
set_option maxRecDepth 20000 in
theorem dqX10_take_p182 : dz_rn 32 (cX10_take.data.toList.drop 32) [(0, 22), (0, 4), (3, 0), (1, 0), (0, 10), (2, 0), (4, 6), (2, 0), (0, 12), (1, 0), (4, 8), (1, 0), (0, 4), (3, 0)] = some [(32, .iastore, 1), (33, .aload_n 0, 1), (34, .getfield 71, 3), (37, .iload 6, 2), (39, .iaload, 1), (40, .bipush 23, 2), (42, .if_icmp .le 6, 3), (45, .bipush (-2), 2), (47, .ireturn, 1), (48, .iload 5, 2), (50, .ifCond .ne 19, 3), (53, .iload 4, 2), (55, .aload_n 0, 1), (56, .getfield 71, 3)] := by decide +kernel
theorem dX10_take_32 : decode cX10_take 32 = .ok (.iastore, 1) := dz_at dqX10_take_p182 0 rfl
theorem dX10_take_33 : decode cX10_take 33 = .ok (.aload_n 0, 1) := dz_at dqX10_take_p182 1 rfl
theorem dX10_take_34 : decode cX10_take 34 = .ok (.getfield 71, 3) := dz_at dqX10_take_p182 2 rfl
theorem dX10_take_37 : decode cX10_take 37 = .ok (.iload 6, 2) := dz_at dqX10_take_p182 3 rfl
theorem dX10_take_39 : decode cX10_take 39 = .ok (.iaload, 1) := dz_at dqX10_take_p182 4 rfl
theorem dX10_take_40 : decode cX10_take 40 = .ok (.bipush 23, 2) := dz_at dqX10_take_p182 5 rfl
theorem dX10_take_42 : decode cX10_take 42 = .ok (.if_icmp .le 6, 3) := dz_at dqX10_take_p182 6 rfl
theorem dX10_take_45 : decode cX10_take 45 = .ok (.bipush (-2), 2) := dz_at dqX10_take_p182 7 rfl
theorem dX10_take_47 : decode cX10_take 47 = .ok (.ireturn, 1) := dz_at dqX10_take_p182 8 rfl
theorem dX10_take_48 : decode cX10_take 48 = .ok (.iload 5, 2) := dz_at dqX10_take_p182 9 rfl
theorem dX10_take_50 : decode cX10_take 50 = .ok (.ifCond .ne 19, 3) := dz_at dqX10_take_p182 10 rfl
theorem dX10_take_53 : decode cX10_take 53 = .ok (.iload 4, 2) := dz_at dqX10_take_p182 11 rfl
theorem dX10_take_55 : decode cX10_take 55 = .ok (.aload_n 0, 1) := dz_at dqX10_take_p182 12 rfl
theorem dX10_take_56 : decode cX10_take 56 = .ok (.getfield 71, 3) := dz_at dqX10_take_p182 13 rfl
set_option maxRecDepth 20000 in
theorem dqX10_take_p183 : dz_rn 59 (cX10_take.data.toList.drop 59) [(1, 0), (0, 10), (0, 32), (0, 9), (0, 29), (0, 9), (4, 2), (0, 9), (4, 0), (0, 8), (1, 1), (1, 0), (0, 9), (0, 4)] = some [(59, .iload 6, 2), (61, .iaload, 1), (62, .ishr, 1), (63, .iconst 1, 1), (64, .iand, 1), (65, .iconst 1, 1), (66, .if_icmp .ne 7, 3), (69, .iconst 1, 1), (70, .goto 4, 3), (73, .iconst 0, 1), (74, .istore 5, 2), (76, .iload 4, 2), (78, .iconst 1, 1), (79, .aload_n 0, 1)] := by decide +kernel
theorem dX10_take_59 : decode cX10_take 59 = .ok (.iload 6, 2) := dz_at dqX10_take_p183 0 rfl
theorem dX10_take_61 : decode cX10_take 61 = .ok (.iaload, 1) := dz_at dqX10_take_p183 1 rfl
theorem dX10_take_62 : decode cX10_take 62 = .ok (.ishr, 1) := dz_at dqX10_take_p183 2 rfl
theorem dX10_take_63 : decode cX10_take 63 = .ok (.iconst 1, 1) := dz_at dqX10_take_p183 3 rfl
theorem dX10_take_64 : decode cX10_take 64 = .ok (.iand, 1) := dz_at dqX10_take_p183 4 rfl
theorem dX10_take_65 : decode cX10_take 65 = .ok (.iconst 1, 1) := dz_at dqX10_take_p183 5 rfl
theorem dX10_take_66 : decode cX10_take 66 = .ok (.if_icmp .ne 7, 3) := dz_at dqX10_take_p183 6 rfl
theorem dX10_take_69 : decode cX10_take 69 = .ok (.iconst 1, 1) := dz_at dqX10_take_p183 7 rfl
theorem dX10_take_70 : decode cX10_take 70 = .ok (.goto 4, 3) := dz_at dqX10_take_p183 8 rfl
theorem dX10_take_73 : decode cX10_take 73 = .ok (.iconst 0, 1) := dz_at dqX10_take_p183 9 rfl
theorem dX10_take_74 : decode cX10_take 74 = .ok (.istore 5, 2) := dz_at dqX10_take_p183 10 rfl
theorem dX10_take_76 : decode cX10_take 76 = .ok (.iload 4, 2) := dz_at dqX10_take_p183 11 rfl
theorem dX10_take_78 : decode cX10_take 78 = .ok (.iconst 1, 1) := dz_at dqX10_take_p183 12 rfl
theorem dX10_take_79 : decode cX10_take 79 = .ok (.aload_n 0, 1) := dz_at dqX10_take_p183 13 rfl
set_option maxRecDepth 20000 in
theorem dqX10_take_p184 : dz_rn 80 (cX10_take.data.toList.drop 80) [(3, 0), (1, 0), (0, 10), (0, 31), (0, 39), (1, 1), (5, 0), (4, 0), (1, 0), (4, 7), (2, 0), (4, 0), (0, 9), (0, 12)] = some [(80, .getfield 71, 3), (83, .iload 6, 2), (85, .iaload, 1), (86, .ishl, 1), (87, .ior, 1), (88, .istore 4, 2), (90, .iinc 6 1, 3), (93, .goto (-84), 3), (96, .iload 5, 2), (98, .ifCond .eq 8, 3), (101, .bipush (-3), 2), (103, .goto 4, 3), (106, .iconst 1, 1), (107, .ireturn, 1)] := by decide +kernel
theorem dX10_take_80 : decode cX10_take 80 = .ok (.getfield 71, 3) := dz_at dqX10_take_p184 0 rfl
theorem dX10_take_83 : decode cX10_take 83 = .ok (.iload 6, 2) := dz_at dqX10_take_p184 1 rfl
theorem dX10_take_85 : decode cX10_take 85 = .ok (.iaload, 1) := dz_at dqX10_take_p184 2 rfl
theorem dX10_take_86 : decode cX10_take 86 = .ok (.ishl, 1) := dz_at dqX10_take_p184 3 rfl
theorem dX10_take_87 : decode cX10_take 87 = .ok (.ior, 1) := dz_at dqX10_take_p184 4 rfl
theorem dX10_take_88 : decode cX10_take 88 = .ok (.istore 4, 2) := dz_at dqX10_take_p184 5 rfl
theorem dX10_take_90 : decode cX10_take 90 = .ok (.iinc 6 1, 3) := dz_at dqX10_take_p184 6 rfl
theorem dX10_take_93 : decode cX10_take 93 = .ok (.goto (-84), 3) := dz_at dqX10_take_p184 7 rfl
theorem dX10_take_96 : decode cX10_take 96 = .ok (.iload 5, 2) := dz_at dqX10_take_p184 8 rfl
theorem dX10_take_98 : decode cX10_take 98 = .ok (.ifCond .eq 8, 3) := dz_at dqX10_take_p184 9 rfl
theorem dX10_take_101 : decode cX10_take 101 = .ok (.bipush (-3), 2) := dz_at dqX10_take_p184 10 rfl
theorem dX10_take_103 : decode cX10_take 103 = .ok (.goto 4, 3) := dz_at dqX10_take_p184 11 rfl
theorem dX10_take_106 : decode cX10_take 106 = .ok (.iconst 1, 1) := dz_at dqX10_take_p184 12 rfl
theorem dX10_take_107 : decode cX10_take 107 = .ok (.ireturn, 1) := dz_at dqX10_take_p184 13 rfl
set_option maxRecDepth 20000 in
theorem ggX10_findOrder_X10_speechOf : GoodIn wsX10_findOrder wsX10_speechOf := goodIn_r _ [9, 4, 2, 10, 11, 12, 8, 13, 14, 20, 21, 22, 23, 24, 25, 26, 27, 28, 29, 30, 31, 32, 33, 34, 35, 36, 37, 38, 39, 40, 41, 42, 43, 44, 45, 46, 47, 48, 49, 50, 51, 52, 53, 54, 55, 56, 57, 58] rfl (by decide +kernel)
set_option maxRecDepth 20000 in
theorem gX10_findOrder_X10_speechOf : GoodIn wsX10_findOrder (wsV RX10 228 RX10 yX10_speechOf wsX10_speechOf) := goodIn_app (goodIn_of _ (by decide +kernel)) ggX10_findOrder_X10_speechOf
set_option maxRecDepth 20000 in
theorem ggX10_findOrder_X10_harmOf : GoodIn wsX10_findOrder wsX10_harmOf := goodIn_r _ [18, 4, 2, 19, 10, 11, 12, 8, 13, 14, 20, 21, 22, 23, 24, 25, 26, 27, 28, 29, 30, 31, 32, 33, 34, 35, 36, 37, 38, 39, 40, 41, 42, 43, 44, 45, 46, 47, 48, 49, 50, 51, 52, 53, 54, 55, 56, 57, 58] rfl (by decide +kernel)
set_option maxRecDepth 20000 in
theorem gX10_findOrder_X10_harmOf : GoodIn wsX10_findOrder (wsV RX10 231 RX10 yX10_harmOf wsX10_harmOf) := goodIn_app (goodIn_of _ (by decide +kernel)) ggX10_findOrder_X10_harmOf
set_option maxRecDepth 20000 in
theorem dqX10_findOrder_p180 : dz_rn 0 (cX10_findOrder.data.toList.drop 0) [(0, 4), (0, 13), (3, 3), (0, 8), (0, 21), (0, 4), (3, 0), (0, 8), (0, 13), (0, 22), (0, 3), (4, 9), (0, 4), (3, 0)] = some [(0, .aload_n 0, 1), (1, .iconst (-1), 1), (2, .putfield 225, 3), (5, .iconst 0, 1), (6, .istore_n 3, 1), (7, .aload_n 0, 1), (8, .getfield 74, 3), (11, .iconst 0, 1), (12, .iconst (-1), 1), (13, .iastore, 1), (14, .iload_n 3, 1), (15, .ifCond .lt 184, 3), (18, .aload_n 0, 1), (19, .getfield 74, 3)] := by decide +kernel
theorem dX10_findOrder_0 : decode cX10_findOrder 0 = .ok (.aload_n 0, 1) := dz_at dqX10_findOrder_p180 0 rfl
theorem dX10_findOrder_1 : decode cX10_findOrder 1 = .ok (.iconst (-1), 1) := dz_at dqX10_findOrder_p180 1 rfl
theorem dX10_findOrder_2 : decode cX10_findOrder 2 = .ok (.putfield 225, 3) := dz_at dqX10_findOrder_p180 2 rfl
theorem dX10_findOrder_5 : decode cX10_findOrder 5 = .ok (.iconst 0, 1) := dz_at dqX10_findOrder_p180 3 rfl
theorem dX10_findOrder_6 : decode cX10_findOrder 6 = .ok (.istore_n 3, 1) := dz_at dqX10_findOrder_p180 4 rfl
theorem dX10_findOrder_7 : decode cX10_findOrder 7 = .ok (.aload_n 0, 1) := dz_at dqX10_findOrder_p180 5 rfl
theorem dX10_findOrder_8 : decode cX10_findOrder 8 = .ok (.getfield 74, 3) := dz_at dqX10_findOrder_p180 6 rfl
theorem dX10_findOrder_11 : decode cX10_findOrder 11 = .ok (.iconst 0, 1) := dz_at dqX10_findOrder_p180 7 rfl
theorem dX10_findOrder_12 : decode cX10_findOrder 12 = .ok (.iconst (-1), 1) := dz_at dqX10_findOrder_p180 8 rfl
theorem dX10_findOrder_13 : decode cX10_findOrder 13 = .ok (.iastore, 1) := dz_at dqX10_findOrder_p180 9 rfl
theorem dX10_findOrder_14 : decode cX10_findOrder 14 = .ok (.iload_n 3, 1) := dz_at dqX10_findOrder_p180 10 rfl
theorem dX10_findOrder_15 : decode cX10_findOrder 15 = .ok (.ifCond .lt 184, 3) := dz_at dqX10_findOrder_p180 11 rfl
theorem dX10_findOrder_18 : decode cX10_findOrder 18 = .ok (.aload_n 0, 1) := dz_at dqX10_findOrder_p180 12 rfl
theorem dX10_findOrder_19 : decode cX10_findOrder 19 = .ok (.getfield 74, 3) := dz_at dqX10_findOrder_p180 13 rfl
set_option maxRecDepth 20000 in
theorem dqX10_findOrder_p181 : dz_rn 22 (cX10_findOrder.data.toList.drop 22) [(0, 3), (0, 41), (0, 10), (0, 9), (0, 11), (0, 22), (0, 9), (1, 1), (0, 8), (1, 1), (1, 0), (0, 3), (4, 4), (1, 0)] = some [(22, .iload_n 3, 1), (23, .dup2, 1), (24, .iaload, 1), (25, .iconst 1, 1), (26, .iadd, 1), (27, .iastore, 1), (28, .iconst 1, 1), (29, .istore 4, 2), (31, .iconst 0, 1), (32, .istore 5, 2), (34, .iload 5, 2), (36, .iload_n 3, 1), (37, .if_icmp .ge 37, 3), (40, .iload 4, 2)] := by decide +kernel
theorem dX10_findOrder_22 : decode cX10_findOrder 22 = .ok (.iload_n 3, 1) := dz_at dqX10_findOrder_p181 0 rfl
theorem dX10_findOrder_23 : decode cX10_findOrder 23 = .ok (.dup2, 1) := dz_at dqX10_findOrder_p181 1 rfl
theorem dX10_findOrder_24 : decode cX10_findOrder 24 = .ok (.iaload, 1) := dz_at dqX10_findOrder_p181 2 rfl
theorem dX10_findOrder_25 : decode cX10_findOrder 25 = .ok (.iconst 1, 1) := dz_at dqX10_findOrder_p181 3 rfl
theorem dX10_findOrder_26 : decode cX10_findOrder 26 = .ok (.iadd, 1) := dz_at dqX10_findOrder_p181 4 rfl
theorem dX10_findOrder_27 : decode cX10_findOrder 27 = .ok (.iastore, 1) := dz_at dqX10_findOrder_p181 5 rfl
theorem dX10_findOrder_28 : decode cX10_findOrder 28 = .ok (.iconst 1, 1) := dz_at dqX10_findOrder_p181 6 rfl
theorem dX10_findOrder_29 : decode cX10_findOrder 29 = .ok (.istore 4, 2) := dz_at dqX10_findOrder_p181 7 rfl
theorem dX10_findOrder_31 : decode cX10_findOrder 31 = .ok (.iconst 0, 1) := dz_at dqX10_findOrder_p181 8 rfl
theorem dX10_findOrder_32 : decode cX10_findOrder 32 = .ok (.istore 5, 2) := dz_at dqX10_findOrder_p181 9 rfl
theorem dX10_findOrder_34 : decode cX10_findOrder 34 = .ok (.iload 5, 2) := dz_at dqX10_findOrder_p181 10 rfl
theorem dX10_findOrder_36 : decode cX10_findOrder 36 = .ok (.iload_n 3, 1) := dz_at dqX10_findOrder_p181 11 rfl
theorem dX10_findOrder_37 : decode cX10_findOrder 37 = .ok (.if_icmp .ge 37, 3) := dz_at dqX10_findOrder_p181 12 rfl
theorem dX10_findOrder_40 : decode cX10_findOrder 40 = .ok (.iload 4, 2) := dz_at dqX10_findOrder_p181 13 rfl
set_option maxRecDepth 20000 in
theorem dqX10_findOrder_p182 : dz_rn 42 (cX10_findOrder.data.toList.drop 42) [(4, 7), (0, 4), (3, 0), (1, 0), (0, 10), (0, 4), (3, 0), (0, 3), (0, 10), (4, 1), (0, 9), (4, 0), (0, 8), (1, 1)] = some [(42, .ifCond .eq 23, 3), (45, .aload_n 0, 1), (46, .getfield 74, 3), (49, .iload 5, 2), (51, .iaload, 1), (52, .aload_n 0, 1), (53, .getfield 74, 3), (56, .iload_n 3, 1), (57, .iaload, 1), (58, .if_icmp .eq 7, 3), (61, .iconst 1, 1), (62, .goto 4, 3), (65, .iconst 0, 1), (66, .istore 4, 2)] := by decide +kernel
theorem dX10_findOrder_42 : decode cX10_findOrder 42 = .ok (.ifCond .eq 23, 3) := dz_at dqX10_findOrder_p182 0 rfl
theorem dX10_findOrder_45 : decode cX10_findOrder 45 = .ok (.aload_n 0, 1) := dz_at dqX10_findOrder_p182 1 rfl
theorem dX10_findOrder_46 : decode cX10_findOrder 46 = .ok (.getfield 74, 3) := dz_at dqX10_findOrder_p182 2 rfl
theorem dX10_findOrder_49 : decode cX10_findOrder 49 = .ok (.iload 5, 2) := dz_at dqX10_findOrder_p182 3 rfl
theorem dX10_findOrder_51 : decode cX10_findOrder 51 = .ok (.iaload, 1) := dz_at dqX10_findOrder_p182 4 rfl
theorem dX10_findOrder_52 : decode cX10_findOrder 52 = .ok (.aload_n 0, 1) := dz_at dqX10_findOrder_p182 5 rfl
theorem dX10_findOrder_53 : decode cX10_findOrder 53 = .ok (.getfield 74, 3) := dz_at dqX10_findOrder_p182 6 rfl
theorem dX10_findOrder_56 : decode cX10_findOrder 56 = .ok (.iload_n 3, 1) := dz_at dqX10_findOrder_p182 7 rfl
theorem dX10_findOrder_57 : decode cX10_findOrder 57 = .ok (.iaload, 1) := dz_at dqX10_findOrder_p182 8 rfl
theorem dX10_findOrder_58 : decode cX10_findOrder 58 = .ok (.if_icmp .eq 7, 3) := dz_at dqX10_findOrder_p182 9 rfl
theorem dX10_findOrder_61 : decode cX10_findOrder 61 = .ok (.iconst 1, 1) := dz_at dqX10_findOrder_p182 10 rfl
theorem dX10_findOrder_62 : decode cX10_findOrder 62 = .ok (.goto 4, 3) := dz_at dqX10_findOrder_p182 11 rfl
theorem dX10_findOrder_65 : decode cX10_findOrder 65 = .ok (.iconst 0, 1) := dz_at dqX10_findOrder_p182 12 rfl
theorem dX10_findOrder_66 : decode cX10_findOrder 66 = .ok (.istore 4, 2) := dz_at dqX10_findOrder_p182 13 rfl
set_option maxRecDepth 20000 in
theorem dqX10_findOrder_p183 : dz_rn 68 (cX10_findOrder.data.toList.drop 68) [(5, 0), (4, 0), (0, 4), (3, 0), (0, 3), (0, 10), (0, 1), (4, 2), (5, 0), (4, 0), (1, 0), (4, 7), (0, 3), (0, 1)] = some [(68, .iinc 5 1, 3), (71, .goto (-37), 3), (74, .aload_n 0, 1), (75, .getfield 74, 3), (78, .iload_n 3, 1), (79, .iaload, 1), (80, .iload_n 1, 1), (81, .if_icmp .ne 9, 3), (84, .iinc 3 (-1), 3), (87, .goto 109, 3), (90, .iload 4, 2), (92, .ifCond .eq 89, 3), (95, .iload_n 3, 1), (96, .iload_n 1, 1)] := by decide +kernel
theorem dX10_findOrder_68 : decode cX10_findOrder 68 = .ok (.iinc 5 1, 3) := dz_at dqX10_findOrder_p183 0 rfl
theorem dX10_findOrder_71 : decode cX10_findOrder 71 = .ok (.goto (-37), 3) := dz_at dqX10_findOrder_p183 1 rfl
theorem dX10_findOrder_74 : decode cX10_findOrder 74 = .ok (.aload_n 0, 1) := dz_at dqX10_findOrder_p183 2 rfl
theorem dX10_findOrder_75 : decode cX10_findOrder 75 = .ok (.getfield 74, 3) := dz_at dqX10_findOrder_p183 3 rfl
theorem dX10_findOrder_78 : decode cX10_findOrder 78 = .ok (.iload_n 3, 1) := dz_at dqX10_findOrder_p183 4 rfl
theorem dX10_findOrder_79 : decode cX10_findOrder 79 = .ok (.iaload, 1) := dz_at dqX10_findOrder_p183 5 rfl
theorem dX10_findOrder_80 : decode cX10_findOrder 80 = .ok (.iload_n 1, 1) := dz_at dqX10_findOrder_p183 6 rfl
theorem dX10_findOrder_81 : decode cX10_findOrder 81 = .ok (.if_icmp .ne 9, 3) := dz_at dqX10_findOrder_p183 7 rfl
theorem dX10_findOrder_84 : decode cX10_findOrder 84 = .ok (.iinc 3 (-1), 3) := dz_at dqX10_findOrder_p183 8 rfl
theorem dX10_findOrder_87 : decode cX10_findOrder 87 = .ok (.goto 109, 3) := dz_at dqX10_findOrder_p183 9 rfl
theorem dX10_findOrder_90 : decode cX10_findOrder 90 = .ok (.iload 4, 2) := dz_at dqX10_findOrder_p183 10 rfl
theorem dX10_findOrder_92 : decode cX10_findOrder 92 = .ok (.ifCond .eq 89, 3) := dz_at dqX10_findOrder_p183 11 rfl
theorem dX10_findOrder_95 : decode cX10_findOrder 95 = .ok (.iload_n 3, 1) := dz_at dqX10_findOrder_p183 12 rfl
theorem dX10_findOrder_96 : decode cX10_findOrder 96 = .ok (.iload_n 1, 1) := dz_at dqX10_findOrder_p183 13 rfl
set_option maxRecDepth 20000 in
theorem dqX10_findOrder_p184 : dz_rn 97 (cX10_findOrder.data.toList.drop 97) [(0, 9), (0, 26), (4, 2), (0, 2), (4, 7), (0, 4), (0, 1), (3, 1), (4, 0), (0, 4), (0, 1), (3, 1), (1, 1), (0, 4)] = some [(97, .iconst 1, 1), (98, .isub, 1), (99, .if_icmp .ne 82, 3), (102, .iload_n 2, 1), (103, .ifCond .eq 11, 3), (106, .aload_n 0, 1), (107, .iload_n 1, 1), (108, .invokevirtual 228, 3), (111, .goto 8, 3), (114, .aload_n 0, 1), (115, .iload_n 1, 1), (116, .invokevirtual 231, 3), (119, .istore 5, 2), (121, .aload_n 0, 1)] := by decide +kernel
theorem dX10_findOrder_97 : decode cX10_findOrder 97 = .ok (.iconst 1, 1) := dz_at dqX10_findOrder_p184 0 rfl
theorem dX10_findOrder_98 : decode cX10_findOrder 98 = .ok (.isub, 1) := dz_at dqX10_findOrder_p184 1 rfl
theorem dX10_findOrder_99 : decode cX10_findOrder 99 = .ok (.if_icmp .ne 82, 3) := dz_at dqX10_findOrder_p184 2 rfl
theorem dX10_findOrder_102 : decode cX10_findOrder 102 = .ok (.iload_n 2, 1) := dz_at dqX10_findOrder_p184 3 rfl
theorem dX10_findOrder_103 : decode cX10_findOrder 103 = .ok (.ifCond .eq 11, 3) := dz_at dqX10_findOrder_p184 4 rfl
theorem dX10_findOrder_106 : decode cX10_findOrder 106 = .ok (.aload_n 0, 1) := dz_at dqX10_findOrder_p184 5 rfl
theorem dX10_findOrder_107 : decode cX10_findOrder 107 = .ok (.iload_n 1, 1) := dz_at dqX10_findOrder_p184 6 rfl
theorem dX10_findOrder_108 : decode cX10_findOrder 108 = .ok (.invokevirtual 228, 3) := dz_at dqX10_findOrder_p184 7 rfl
theorem dX10_findOrder_111 : decode cX10_findOrder 111 = .ok (.goto 8, 3) := dz_at dqX10_findOrder_p184 8 rfl
theorem dX10_findOrder_114 : decode cX10_findOrder 114 = .ok (.aload_n 0, 1) := dz_at dqX10_findOrder_p184 9 rfl
theorem dX10_findOrder_115 : decode cX10_findOrder 115 = .ok (.iload_n 1, 1) := dz_at dqX10_findOrder_p184 10 rfl
theorem dX10_findOrder_116 : decode cX10_findOrder 116 = .ok (.invokevirtual 231, 3) := dz_at dqX10_findOrder_p184 11 rfl
theorem dX10_findOrder_119 : decode cX10_findOrder 119 = .ok (.istore 5, 2) := dz_at dqX10_findOrder_p184 12 rfl
theorem dX10_findOrder_121 : decode cX10_findOrder 121 = .ok (.aload_n 0, 1) := dz_at dqX10_findOrder_p184 13 rfl
set_option maxRecDepth 20000 in
theorem dqX10_findOrder_p185 : dz_rn 122 (cX10_findOrder.data.toList.drop 122) [(3, 0), (0, 13), (4, 1), (1, 0), (0, 4), (3, 0), (4, 4), (0, 4), (1, 0), (3, 3), (0, 8), (1, 1), (1, 0), (0, 1)] = some [(122, .getfield 225, 3), (125, .iconst (-1), 1), (126, .if_icmp .eq 12, 3), (129, .iload 5, 2), (131, .aload_n 0, 1), (132, .getfield 225, 3), (135, .if_icmp .ge 43, 3), (138, .aload_n 0, 1), (139, .iload 5, 2), (141, .putfield 225, 3), (144, .iconst 0, 1), (145, .istore 6, 2), (147, .iload 6, 2), (149, .iload_n 1, 1)] := by decide +kernel
theorem dX10_findOrder_122 : decode cX10_findOrder 122 = .ok (.getfield 225, 3) := dz_at dqX10_findOrder_p185 0 rfl
theorem dX10_findOrder_125 : decode cX10_findOrder 125 = .ok (.iconst (-1), 1) := dz_at dqX10_findOrder_p185 1 rfl
theorem dX10_findOrder_126 : decode cX10_findOrder 126 = .ok (.if_icmp .eq 12, 3) := dz_at dqX10_findOrder_p185 2 rfl
theorem dX10_findOrder_129 : decode cX10_findOrder 129 = .ok (.iload 5, 2) := dz_at dqX10_findOrder_p185 3 rfl
theorem dX10_findOrder_131 : decode cX10_findOrder 131 = .ok (.aload_n 0, 1) := dz_at dqX10_findOrder_p185 4 rfl
theorem dX10_findOrder_132 : decode cX10_findOrder 132 = .ok (.getfield 225, 3) := dz_at dqX10_findOrder_p185 5 rfl
theorem dX10_findOrder_135 : decode cX10_findOrder 135 = .ok (.if_icmp .ge 43, 3) := dz_at dqX10_findOrder_p185 6 rfl
theorem dX10_findOrder_138 : decode cX10_findOrder 138 = .ok (.aload_n 0, 1) := dz_at dqX10_findOrder_p185 7 rfl
theorem dX10_findOrder_139 : decode cX10_findOrder 139 = .ok (.iload 5, 2) := dz_at dqX10_findOrder_p185 8 rfl
theorem dX10_findOrder_141 : decode cX10_findOrder 141 = .ok (.putfield 225, 3) := dz_at dqX10_findOrder_p185 9 rfl
theorem dX10_findOrder_144 : decode cX10_findOrder 144 = .ok (.iconst 0, 1) := dz_at dqX10_findOrder_p185 10 rfl
theorem dX10_findOrder_145 : decode cX10_findOrder 145 = .ok (.istore 6, 2) := dz_at dqX10_findOrder_p185 11 rfl
theorem dX10_findOrder_147 : decode cX10_findOrder 147 = .ok (.iload 6, 2) := dz_at dqX10_findOrder_p185 12 rfl
theorem dX10_findOrder_149 : decode cX10_findOrder 149 = .ok (.iload_n 1, 1) := dz_at dqX10_findOrder_p185 13 rfl
set_option maxRecDepth 20000 in
theorem dqX10_findOrder_p186 : dz_rn 150 (cX10_findOrder.data.toList.drop 150) [(4, 4), (0, 4), (3, 0), (1, 0), (0, 4), (3, 0), (0, 4), (3, 0), (1, 0), (0, 10), (0, 10), (0, 22), (5, 0), (4, 0)] = some [(150, .if_icmp .ge 28, 3), (153, .aload_n 0, 1), (154, .getfield 77, 3), (157, .iload 6, 2), (159, .aload_n 0, 1), (160, .getfield 71, 3), (163, .aload_n 0, 1), (164, .getfield 74, 3), (167, .iload 6, 2), (169, .iaload, 1), (170, .iaload, 1), (171, .iastore, 1), (172, .iinc 6 1, 3), (175, .goto (-28), 3)] := by decide +kernel
theorem dX10_findOrder_150 : decode cX10_findOrder 150 = .ok (.if_icmp .ge 28, 3) := dz_at dqX10_findOrder_p186 0 rfl
theorem dX10_findOrder_153 : decode cX10_findOrder 153 = .ok (.aload_n 0, 1) := dz_at dqX10_findOrder_p186 1 rfl
theorem dX10_findOrder_154 : decode cX10_findOrder 154 = .ok (.getfield 77, 3) := dz_at dqX10_findOrder_p186 2 rfl
theorem dX10_findOrder_157 : decode cX10_findOrder 157 = .ok (.iload 6, 2) := dz_at dqX10_findOrder_p186 3 rfl
theorem dX10_findOrder_159 : decode cX10_findOrder 159 = .ok (.aload_n 0, 1) := dz_at dqX10_findOrder_p186 4 rfl
theorem dX10_findOrder_160 : decode cX10_findOrder 160 = .ok (.getfield 71, 3) := dz_at dqX10_findOrder_p186 5 rfl
theorem dX10_findOrder_163 : decode cX10_findOrder 163 = .ok (.aload_n 0, 1) := dz_at dqX10_findOrder_p186 6 rfl
theorem dX10_findOrder_164 : decode cX10_findOrder 164 = .ok (.getfield 74, 3) := dz_at dqX10_findOrder_p186 7 rfl
theorem dX10_findOrder_167 : decode cX10_findOrder 167 = .ok (.iload 6, 2) := dz_at dqX10_findOrder_p186 8 rfl
theorem dX10_findOrder_169 : decode cX10_findOrder 169 = .ok (.iaload, 1) := dz_at dqX10_findOrder_p186 9 rfl
theorem dX10_findOrder_170 : decode cX10_findOrder 170 = .ok (.iaload, 1) := dz_at dqX10_findOrder_p186 10 rfl
theorem dX10_findOrder_171 : decode cX10_findOrder 171 = .ok (.iastore, 1) := dz_at dqX10_findOrder_p186 11 rfl
theorem dX10_findOrder_172 : decode cX10_findOrder 172 = .ok (.iinc 6 1, 3) := dz_at dqX10_findOrder_p186 12 rfl
theorem dX10_findOrder_175 : decode cX10_findOrder 175 = .ok (.goto (-28), 3) := dz_at dqX10_findOrder_p186 13 rfl
set_option maxRecDepth 20000 in
theorem dqX10_findOrder_p187 : dz_rn 178 (cX10_findOrder.data.toList.drop 178) [(4, 0), (1, 0), (4, 7), (5, 0), (0, 4), (3, 0), (0, 3), (0, 13), (0, 22), (4, 0), (0, 25)] = some [(178, .goto 18, 3), (181, .iload 4, 2), (183, .ifCond .eq 13, 3), (186, .iinc 3 1, 3), (189, .aload_n 0, 1), (190, .getfield 74, 3), (193, .iload_n 3, 1), (194, .iconst (-1), 1), (195, .iastore, 1), (196, .goto (-182), 3), (199, .return_, 1)] := by decide +kernel
theorem dX10_findOrder_178 : decode cX10_findOrder 178 = .ok (.goto 18, 3) := dz_at dqX10_findOrder_p187 0 rfl
theorem dX10_findOrder_181 : decode cX10_findOrder 181 = .ok (.iload 4, 2) := dz_at dqX10_findOrder_p187 1 rfl
theorem dX10_findOrder_183 : decode cX10_findOrder 183 = .ok (.ifCond .eq 13, 3) := dz_at dqX10_findOrder_p187 2 rfl
theorem dX10_findOrder_186 : decode cX10_findOrder 186 = .ok (.iinc 3 1, 3) := dz_at dqX10_findOrder_p187 3 rfl
theorem dX10_findOrder_189 : decode cX10_findOrder 189 = .ok (.aload_n 0, 1) := dz_at dqX10_findOrder_p187 4 rfl
theorem dX10_findOrder_190 : decode cX10_findOrder 190 = .ok (.getfield 74, 3) := dz_at dqX10_findOrder_p187 5 rfl
theorem dX10_findOrder_193 : decode cX10_findOrder 193 = .ok (.iload_n 3, 1) := dz_at dqX10_findOrder_p187 6 rfl
theorem dX10_findOrder_194 : decode cX10_findOrder 194 = .ok (.iconst (-1), 1) := dz_at dqX10_findOrder_p187 7 rfl
theorem dX10_findOrder_195 : decode cX10_findOrder 195 = .ok (.iastore, 1) := dz_at dqX10_findOrder_p187 8 rfl
theorem dX10_findOrder_196 : decode cX10_findOrder 196 = .ok (.goto (-182), 3) := dz_at dqX10_findOrder_p187 9 rfl
theorem dX10_findOrder_199 : decode cX10_findOrder 199 = .ok (.return_, 1) := dz_at dqX10_findOrder_p187 10 rfl
set_option maxRecDepth 20000 in
theorem ggX10_speechOf_X10_likeness : GoodIn wsX10_speechOf wsX10_likeness := goodIn_r _ [7, 8, 9, 10, 11, 12, 13, 14, 15, 16, 17, 18, 19, 20, 21, 22, 23, 24, 25, 26, 27, 28, 29, 30, 31, 32, 33, 34, 35, 36, 37, 38, 39, 40, 41, 42, 43, 44, 45, 46, 47] rfl (by decide +kernel)
set_option maxRecDepth 20000 in
theorem gX10_speechOf_X10_likeness : GoodIn wsX10_speechOf (wsV RX10 115 RX10 yX10_likeness wsX10_likeness) := goodIn_app (goodIn_of _ (by decide +kernel)) ggX10_speechOf_X10_likeness
set_option maxRecDepth 20000 in
theorem dqX10_speechOf_p180 : dz_rn 0 (cX10_speechOf.data.toList.drop 0) [(0, 8), (0, 20), (0, 9), (0, 21), (0, 3), (0, 1), (4, 4), (0, 2), (0, 4), (0, 4), (3, 0), (0, 4), (3, 0), (0, 3)] = some [(0, .iconst 0, 1), (1, .istore_n 2, 1), (2, .iconst 1, 1), (3, .istore_n 3, 1), (4, .iload_n 3, 1), (5, .iload_n 1, 1), (6, .if_icmp .ge 40, 3), (9, .iload_n 2, 1), (10, .aload_n 0, 1), (11, .aload_n 0, 1), (12, .getfield 71, 3), (15, .aload_n 0, 1), (16, .getfield 74, 3), (19, .iload_n 3, 1)] := by decide +kernel
theorem dX10_speechOf_0 : decode cX10_speechOf 0 = .ok (.iconst 0, 1) := dz_at dqX10_speechOf_p180 0 rfl
theorem dX10_speechOf_1 : decode cX10_speechOf 1 = .ok (.istore_n 2, 1) := dz_at dqX10_speechOf_p180 1 rfl
theorem dX10_speechOf_2 : decode cX10_speechOf 2 = .ok (.iconst 1, 1) := dz_at dqX10_speechOf_p180 2 rfl
theorem dX10_speechOf_3 : decode cX10_speechOf 3 = .ok (.istore_n 3, 1) := dz_at dqX10_speechOf_p180 3 rfl
theorem dX10_speechOf_4 : decode cX10_speechOf 4 = .ok (.iload_n 3, 1) := dz_at dqX10_speechOf_p180 4 rfl
theorem dX10_speechOf_5 : decode cX10_speechOf 5 = .ok (.iload_n 1, 1) := dz_at dqX10_speechOf_p180 5 rfl
theorem dX10_speechOf_6 : decode cX10_speechOf 6 = .ok (.if_icmp .ge 40, 3) := dz_at dqX10_speechOf_p180 6 rfl
theorem dX10_speechOf_9 : decode cX10_speechOf 9 = .ok (.iload_n 2, 1) := dz_at dqX10_speechOf_p180 7 rfl
theorem dX10_speechOf_10 : decode cX10_speechOf 10 = .ok (.aload_n 0, 1) := dz_at dqX10_speechOf_p180 8 rfl
theorem dX10_speechOf_11 : decode cX10_speechOf 11 = .ok (.aload_n 0, 1) := dz_at dqX10_speechOf_p180 9 rfl
theorem dX10_speechOf_12 : decode cX10_speechOf 12 = .ok (.getfield 71, 3) := dz_at dqX10_speechOf_p180 10 rfl
theorem dX10_speechOf_15 : decode cX10_speechOf 15 = .ok (.aload_n 0, 1) := dz_at dqX10_speechOf_p180 11 rfl
theorem dX10_speechOf_16 : decode cX10_speechOf 16 = .ok (.getfield 74, 3) := dz_at dqX10_speechOf_p180 12 rfl
theorem dX10_speechOf_19 : decode cX10_speechOf 19 = .ok (.iload_n 3, 1) := dz_at dqX10_speechOf_p180 13 rfl
set_option maxRecDepth 20000 in
theorem dqX10_speechOf_p181 : dz_rn 20 (cX10_speechOf.data.toList.drop 20) [(0, 9), (0, 26), (0, 10), (0, 10), (0, 4), (3, 0), (0, 4), (3, 0), (0, 3), (0, 10), (0, 10), (3, 1), (0, 11), (0, 20)] = some [(20, .iconst 1, 1), (21, .isub, 1), (22, .iaload, 1), (23, .iaload, 1), (24, .aload_n 0, 1), (25, .getfield 71, 3), (28, .aload_n 0, 1), (29, .getfield 74, 3), (32, .iload_n 3, 1), (33, .iaload, 1), (34, .iaload, 1), (35, .invokevirtual 115, 3), (38, .iadd, 1), (39, .istore_n 2, 1)] := by decide +kernel
theorem dX10_speechOf_20 : decode cX10_speechOf 20 = .ok (.iconst 1, 1) := dz_at dqX10_speechOf_p181 0 rfl
theorem dX10_speechOf_21 : decode cX10_speechOf 21 = .ok (.isub, 1) := dz_at dqX10_speechOf_p181 1 rfl
theorem dX10_speechOf_22 : decode cX10_speechOf 22 = .ok (.iaload, 1) := dz_at dqX10_speechOf_p181 2 rfl
theorem dX10_speechOf_23 : decode cX10_speechOf 23 = .ok (.iaload, 1) := dz_at dqX10_speechOf_p181 3 rfl
theorem dX10_speechOf_24 : decode cX10_speechOf 24 = .ok (.aload_n 0, 1) := dz_at dqX10_speechOf_p181 4 rfl
theorem dX10_speechOf_25 : decode cX10_speechOf 25 = .ok (.getfield 71, 3) := dz_at dqX10_speechOf_p181 5 rfl
theorem dX10_speechOf_28 : decode cX10_speechOf 28 = .ok (.aload_n 0, 1) := dz_at dqX10_speechOf_p181 6 rfl
theorem dX10_speechOf_29 : decode cX10_speechOf 29 = .ok (.getfield 74, 3) := dz_at dqX10_speechOf_p181 7 rfl
theorem dX10_speechOf_32 : decode cX10_speechOf 32 = .ok (.iload_n 3, 1) := dz_at dqX10_speechOf_p181 8 rfl
theorem dX10_speechOf_33 : decode cX10_speechOf 33 = .ok (.iaload, 1) := dz_at dqX10_speechOf_p181 9 rfl
theorem dX10_speechOf_34 : decode cX10_speechOf 34 = .ok (.iaload, 1) := dz_at dqX10_speechOf_p181 10 rfl
theorem dX10_speechOf_35 : decode cX10_speechOf 35 = .ok (.invokevirtual 115, 3) := dz_at dqX10_speechOf_p181 11 rfl
theorem dX10_speechOf_38 : decode cX10_speechOf 38 = .ok (.iadd, 1) := dz_at dqX10_speechOf_p181 12 rfl
theorem dX10_speechOf_39 : decode cX10_speechOf 39 = .ok (.istore_n 2, 1) := dz_at dqX10_speechOf_p181 13 rfl
set_option maxRecDepth 20000 in
theorem dqX10_speechOf_p182 : dz_rn 40 (cX10_speechOf.data.toList.drop 40) [(5, 0), (4, 0), (0, 2), (0, 12)] = some [(40, .iinc 3 1, 3), (43, .goto (-39), 3), (46, .iload_n 2, 1), (47, .ireturn, 1)] := by decide +kernel
theorem dX10_speechOf_40 : decode cX10_speechOf 40 = .ok (.iinc 3 1, 3) := dz_at dqX10_speechOf_p182 0 rfl
theorem dX10_speechOf_43 : decode cX10_speechOf 43 = .ok (.goto (-39), 3) := dz_at dqX10_speechOf_p182 1 rfl
theorem dX10_speechOf_46 : decode cX10_speechOf 46 = .ok (.iload_n 2, 1) := dz_at dqX10_speechOf_p182 2 rfl
theorem dX10_speechOf_47 : decode cX10_speechOf 47 = .ok (.ireturn, 1) := dz_at dqX10_speechOf_p182 3 rfl
set_option maxRecDepth 20000 in
theorem ggX10_harmOf_X10_likeness : GoodIn wsX10_harmOf wsX10_likeness := goodIn_r _ [8, 9, 10, 11, 12, 13, 14, 15, 16, 17, 18, 19, 20, 21, 22, 23, 24, 25, 26, 27, 28, 29, 30, 31, 32, 33, 34, 35, 36, 37, 38, 39, 40, 41, 42, 43, 44, 45, 46, 47, 48] rfl (by decide +kernel)
set_option maxRecDepth 20000 in
theorem gX10_harmOf_X10_likeness : GoodIn wsX10_harmOf (wsV RX10 115 RX10 yX10_likeness wsX10_likeness) := goodIn_app (goodIn_of _ (by decide +kernel)) ggX10_harmOf_X10_likeness
set_option maxRecDepth 20000 in
theorem dqX10_harmOf_p180 : dz_rn 0 (cX10_harmOf.data.toList.drop 0) [(0, 8), (0, 20), (0, 8), (0, 21), (0, 3), (0, 1), (4, 4), (0, 8), (1, 1), (1, 0), (0, 3), (4, 4), (0, 2), (0, 4)] = some [(0, .iconst 0, 1), (1, .istore_n 2, 1), (2, .iconst 0, 1), (3, .istore_n 3, 1), (4, .iload_n 3, 1), (5, .iload_n 1, 1), (6, .if_icmp .ge 67, 3), (9, .iconst 0, 1), (10, .istore 4, 2), (12, .iload 4, 2), (14, .iload_n 3, 1), (15, .if_icmp .ge 52, 3), (18, .iload_n 2, 1), (19, .aload_n 0, 1)] := by decide +kernel
theorem dX10_harmOf_0 : decode cX10_harmOf 0 = .ok (.iconst 0, 1) := dz_at dqX10_harmOf_p180 0 rfl
theorem dX10_harmOf_1 : decode cX10_harmOf 1 = .ok (.istore_n 2, 1) := dz_at dqX10_harmOf_p180 1 rfl
theorem dX10_harmOf_2 : decode cX10_harmOf 2 = .ok (.iconst 0, 1) := dz_at dqX10_harmOf_p180 2 rfl
theorem dX10_harmOf_3 : decode cX10_harmOf 3 = .ok (.istore_n 3, 1) := dz_at dqX10_harmOf_p180 3 rfl
theorem dX10_harmOf_4 : decode cX10_harmOf 4 = .ok (.iload_n 3, 1) := dz_at dqX10_harmOf_p180 4 rfl
theorem dX10_harmOf_5 : decode cX10_harmOf 5 = .ok (.iload_n 1, 1) := dz_at dqX10_harmOf_p180 5 rfl
theorem dX10_harmOf_6 : decode cX10_harmOf 6 = .ok (.if_icmp .ge 67, 3) := dz_at dqX10_harmOf_p180 6 rfl
theorem dX10_harmOf_9 : decode cX10_harmOf 9 = .ok (.iconst 0, 1) := dz_at dqX10_harmOf_p180 7 rfl
theorem dX10_harmOf_10 : decode cX10_harmOf 10 = .ok (.istore 4, 2) := dz_at dqX10_harmOf_p180 8 rfl
theorem dX10_harmOf_12 : decode cX10_harmOf 12 = .ok (.iload 4, 2) := dz_at dqX10_harmOf_p180 9 rfl
theorem dX10_harmOf_14 : decode cX10_harmOf 14 = .ok (.iload_n 3, 1) := dz_at dqX10_harmOf_p180 10 rfl
theorem dX10_harmOf_15 : decode cX10_harmOf 15 = .ok (.if_icmp .ge 52, 3) := dz_at dqX10_harmOf_p180 11 rfl
theorem dX10_harmOf_18 : decode cX10_harmOf 18 = .ok (.iload_n 2, 1) := dz_at dqX10_harmOf_p180 12 rfl
theorem dX10_harmOf_19 : decode cX10_harmOf 19 = .ok (.aload_n 0, 1) := dz_at dqX10_harmOf_p180 13 rfl
set_option maxRecDepth 20000 in
theorem dqX10_harmOf_p181 : dz_rn 20 (cX10_harmOf.data.toList.drop 20) [(0, 4), (3, 0), (0, 4), (3, 0), (0, 3), (0, 10), (0, 10), (0, 4), (3, 0), (0, 4), (3, 0), (1, 0), (0, 10), (0, 10)] = some [(20, .aload_n 0, 1), (21, .getfield 71, 3), (24, .aload_n 0, 1), (25, .getfield 74, 3), (28, .iload_n 3, 1), (29, .iaload, 1), (30, .iaload, 1), (31, .aload_n 0, 1), (32, .getfield 71, 3), (35, .aload_n 0, 1), (36, .getfield 74, 3), (39, .iload 4, 2), (41, .iaload, 1), (42, .iaload, 1)] := by decide +kernel
theorem dX10_harmOf_20 : decode cX10_harmOf 20 = .ok (.aload_n 0, 1) := dz_at dqX10_harmOf_p181 0 rfl
theorem dX10_harmOf_21 : decode cX10_harmOf 21 = .ok (.getfield 71, 3) := dz_at dqX10_harmOf_p181 1 rfl
theorem dX10_harmOf_24 : decode cX10_harmOf 24 = .ok (.aload_n 0, 1) := dz_at dqX10_harmOf_p181 2 rfl
theorem dX10_harmOf_25 : decode cX10_harmOf 25 = .ok (.getfield 74, 3) := dz_at dqX10_harmOf_p181 3 rfl
theorem dX10_harmOf_28 : decode cX10_harmOf 28 = .ok (.iload_n 3, 1) := dz_at dqX10_harmOf_p181 4 rfl
theorem dX10_harmOf_29 : decode cX10_harmOf 29 = .ok (.iaload, 1) := dz_at dqX10_harmOf_p181 5 rfl
theorem dX10_harmOf_30 : decode cX10_harmOf 30 = .ok (.iaload, 1) := dz_at dqX10_harmOf_p181 6 rfl
theorem dX10_harmOf_31 : decode cX10_harmOf 31 = .ok (.aload_n 0, 1) := dz_at dqX10_harmOf_p181 7 rfl
theorem dX10_harmOf_32 : decode cX10_harmOf 32 = .ok (.getfield 71, 3) := dz_at dqX10_harmOf_p181 8 rfl
theorem dX10_harmOf_35 : decode cX10_harmOf 35 = .ok (.aload_n 0, 1) := dz_at dqX10_harmOf_p181 9 rfl
theorem dX10_harmOf_36 : decode cX10_harmOf 36 = .ok (.getfield 74, 3) := dz_at dqX10_harmOf_p181 10 rfl
theorem dX10_harmOf_39 : decode cX10_harmOf 39 = .ok (.iload 4, 2) := dz_at dqX10_harmOf_p181 11 rfl
theorem dX10_harmOf_41 : decode cX10_harmOf 41 = .ok (.iaload, 1) := dz_at dqX10_harmOf_p181 12 rfl
theorem dX10_harmOf_42 : decode cX10_harmOf 42 = .ok (.iaload, 1) := dz_at dqX10_harmOf_p181 13 rfl
set_option maxRecDepth 20000 in
theorem dqX10_harmOf_p182 : dz_rn 43 (cX10_harmOf.data.toList.drop 43) [(3, 1), (0, 4), (3, 0), (2, 0), (0, 3), (0, 23), (1, 0), (0, 11), (0, 10), (0, 23), (0, 11), (0, 20), (5, 0), (4, 0)] = some [(43, .invokevirtual 115, 3), (46, .aload_n 0, 1), (47, .getfield 90, 3), (50, .bipush 10, 2), (52, .iload_n 3, 1), (53, .imul, 1), (54, .iload 4, 2), (56, .iadd, 1), (57, .iaload, 1), (58, .imul, 1), (59, .iadd, 1), (60, .istore_n 2, 1), (61, .iinc 4 1, 3), (64, .goto (-52), 3)] := by decide +kernel
theorem dX10_harmOf_43 : decode cX10_harmOf 43 = .ok (.invokevirtual 115, 3) := dz_at dqX10_harmOf_p182 0 rfl
theorem dX10_harmOf_46 : decode cX10_harmOf 46 = .ok (.aload_n 0, 1) := dz_at dqX10_harmOf_p182 1 rfl
theorem dX10_harmOf_47 : decode cX10_harmOf 47 = .ok (.getfield 90, 3) := dz_at dqX10_harmOf_p182 2 rfl
theorem dX10_harmOf_50 : decode cX10_harmOf 50 = .ok (.bipush 10, 2) := dz_at dqX10_harmOf_p182 3 rfl
theorem dX10_harmOf_52 : decode cX10_harmOf 52 = .ok (.iload_n 3, 1) := dz_at dqX10_harmOf_p182 4 rfl
theorem dX10_harmOf_53 : decode cX10_harmOf 53 = .ok (.imul, 1) := dz_at dqX10_harmOf_p182 5 rfl
theorem dX10_harmOf_54 : decode cX10_harmOf 54 = .ok (.iload 4, 2) := dz_at dqX10_harmOf_p182 6 rfl
theorem dX10_harmOf_56 : decode cX10_harmOf 56 = .ok (.iadd, 1) := dz_at dqX10_harmOf_p182 7 rfl
theorem dX10_harmOf_57 : decode cX10_harmOf 57 = .ok (.iaload, 1) := dz_at dqX10_harmOf_p182 8 rfl
theorem dX10_harmOf_58 : decode cX10_harmOf 58 = .ok (.imul, 1) := dz_at dqX10_harmOf_p182 9 rfl
theorem dX10_harmOf_59 : decode cX10_harmOf 59 = .ok (.iadd, 1) := dz_at dqX10_harmOf_p182 10 rfl
theorem dX10_harmOf_60 : decode cX10_harmOf 60 = .ok (.istore_n 2, 1) := dz_at dqX10_harmOf_p182 11 rfl
theorem dX10_harmOf_61 : decode cX10_harmOf 61 = .ok (.iinc 4 1, 3) := dz_at dqX10_harmOf_p182 12 rfl
theorem dX10_harmOf_64 : decode cX10_harmOf 64 = .ok (.goto (-52), 3) := dz_at dqX10_harmOf_p182 13 rfl
set_option maxRecDepth 20000 in
theorem dqX10_harmOf_p183 : dz_rn 67 (cX10_harmOf.data.toList.drop 67) [(5, 0), (4, 0), (0, 2), (0, 12)] = some [(67, .iinc 3 1, 3), (70, .goto (-66), 3), (73, .iload_n 2, 1), (74, .ireturn, 1)] := by decide +kernel
theorem dX10_harmOf_67 : decode cX10_harmOf 67 = .ok (.iinc 3 1, 3) := dz_at dqX10_harmOf_p183 0 rfl
theorem dX10_harmOf_70 : decode cX10_harmOf 70 = .ok (.goto (-66), 3) := dz_at dqX10_harmOf_p183 1 rfl
theorem dX10_harmOf_73 : decode cX10_harmOf 73 = .ok (.iload_n 2, 1) := dz_at dqX10_harmOf_p183 2 rfl
theorem dX10_harmOf_74 : decode cX10_harmOf 74 = .ok (.ireturn, 1) := dz_at dqX10_harmOf_p183 3 rfl
set_option maxRecDepth 20000 in
theorem ggX10_laid_X10_in : GoodIn wsX10_laid wsX10_in := goodIn_r _ [7] rfl (by decide +kernel)
set_option maxRecDepth 20000 in
theorem gX10_laid_X10_in : GoodIn wsX10_laid (va_wsS RX10 93 yX10_in wsX10_in) := goodIn_app (goodIn_of _ (by decide +kernel)) ggX10_laid_X10_in
set_option maxRecDepth 20000 in
theorem ggX10_laid_X10_take : GoodIn wsX10_laid wsX10_take := goodIn_r _ [11, 1, 12, 32, 33, 34, 35, 36, 37, 38, 39, 40, 41, 42, 43, 44, 45, 46, 47, 48, 49, 50, 51, 52, 53, 54, 55, 56, 57, 58, 59, 60, 61, 62, 63, 64, 65, 66, 67, 68, 69, 70] rfl (by decide +kernel)
set_option maxRecDepth 20000 in
theorem gX10_laid_X10_take : GoodIn wsX10_laid (wsV RX10 234 RX10 yX10_take wsX10_take) := goodIn_app (goodIn_of _ (by decide +kernel)) ggX10_laid_X10_take
set_option maxRecDepth 20000 in
theorem ggX10_laid_X10_findOrder : GoodIn wsX10_laid wsX10_findOrder := goodIn_r _ [16, 2, 17, 3, 1, 18, 19, 20, 6, 21, 22, 23, 24, 25, 26, 27, 28, 29, 30, 31, 32, 33, 34, 35, 36, 37, 38, 39, 40, 41, 42, 43, 44, 45, 46, 47, 48, 49, 50, 51, 52, 53, 54, 55, 56, 57, 58, 59, 60, 61, 62, 63, 64, 65, 66, 67, 68, 69, 70] rfl (by decide +kernel)
set_option maxRecDepth 20000 in
theorem gX10_laid_X10_findOrder : GoodIn wsX10_laid (wsV RX10 238 RX10 yX10_findOrder wsX10_findOrder) := goodIn_app (goodIn_of _ (by decide +kernel)) ggX10_laid_X10_findOrder
set_option maxRecDepth 20000 in
theorem dqX10_laid_p180 : dz_rn 0 (cX10_laid.data.toList.drop 0) [(0, 3), (0, 9), (2, 0), (3, 2), (4, 8), (2, 0), (0, 12), (0, 4), (0, 35), (0, 3), (3, 1), (1, 1), (1, 0), (0, 9)] = some [(0, .iload_n 3, 1), (1, .iconst 1, 1), (2, .bipush 8, 2), (4, .invokestatic 93, 3), (7, .ifCond .ne 6, 3), (10, .bipush (-3), 2), (12, .ireturn, 1), (13, .aload_n 0, 1), (14, .lload_n 1, 1), (15, .iload_n 3, 1), (16, .invokevirtual 234, 3), (19, .istore 5, 2), (21, .iload 5, 2), (23, .iconst 1, 1)] := by decide +kernel
theorem dX10_laid_0 : decode cX10_laid 0 = .ok (.iload_n 3, 1) := dz_at dqX10_laid_p180 0 rfl
theorem dX10_laid_1 : decode cX10_laid 1 = .ok (.iconst 1, 1) := dz_at dqX10_laid_p180 1 rfl
theorem dX10_laid_2 : decode cX10_laid 2 = .ok (.bipush 8, 2) := dz_at dqX10_laid_p180 2 rfl
theorem dX10_laid_4 : decode cX10_laid 4 = .ok (.invokestatic 93, 3) := dz_at dqX10_laid_p180 3 rfl
theorem dX10_laid_7 : decode cX10_laid 7 = .ok (.ifCond .ne 6, 3) := dz_at dqX10_laid_p180 4 rfl
theorem dX10_laid_10 : decode cX10_laid 10 = .ok (.bipush (-3), 2) := dz_at dqX10_laid_p180 5 rfl
theorem dX10_laid_12 : decode cX10_laid 12 = .ok (.ireturn, 1) := dz_at dqX10_laid_p180 6 rfl
theorem dX10_laid_13 : decode cX10_laid 13 = .ok (.aload_n 0, 1) := dz_at dqX10_laid_p180 7 rfl
theorem dX10_laid_14 : decode cX10_laid 14 = .ok (.lload_n 1, 1) := dz_at dqX10_laid_p180 8 rfl
theorem dX10_laid_15 : decode cX10_laid 15 = .ok (.iload_n 3, 1) := dz_at dqX10_laid_p180 9 rfl
theorem dX10_laid_16 : decode cX10_laid 16 = .ok (.invokevirtual 234, 3) := dz_at dqX10_laid_p180 10 rfl
theorem dX10_laid_19 : decode cX10_laid 19 = .ok (.istore 5, 2) := dz_at dqX10_laid_p180 11 rfl
theorem dX10_laid_21 : decode cX10_laid 21 = .ok (.iload 5, 2) := dz_at dqX10_laid_p180 12 rfl
theorem dX10_laid_23 : decode cX10_laid 23 = .ok (.iconst 1, 1) := dz_at dqX10_laid_p180 13 rfl
set_option maxRecDepth 20000 in
theorem dqX10_laid_p181 : dz_rn 24 (cX10_laid.data.toList.drop 24) [(4, 1), (1, 0), (0, 12), (1, 0), (0, 13), (4, 4), (2, 0), (0, 12), (0, 8), (1, 1), (1, 0), (0, 3), (4, 4), (1, 0)] = some [(24, .if_icmp .eq 6, 3), (27, .iload 5, 2), (29, .ireturn, 1), (30, .iload 4, 2), (32, .iconst (-1), 1), (33, .if_icmp .ge 6, 3), (36, .bipush (-3), 2), (38, .ireturn, 1), (39, .iconst 0, 1), (40, .istore 6, 2), (42, .iload 6, 2), (44, .iload_n 3, 1), (45, .if_icmp .ge 97, 3), (48, .iload 6, 2)] := by decide +kernel
theorem dX10_laid_24 : decode cX10_laid 24 = .ok (.if_icmp .eq 6, 3) := dz_at dqX10_laid_p181 0 rfl
theorem dX10_laid_27 : decode cX10_laid 27 = .ok (.iload 5, 2) := dz_at dqX10_laid_p181 1 rfl
theorem dX10_laid_29 : decode cX10_laid 29 = .ok (.ireturn, 1) := dz_at dqX10_laid_p181 2 rfl
theorem dX10_laid_30 : decode cX10_laid 30 = .ok (.iload 4, 2) := dz_at dqX10_laid_p181 3 rfl
theorem dX10_laid_32 : decode cX10_laid 32 = .ok (.iconst (-1), 1) := dz_at dqX10_laid_p181 4 rfl
theorem dX10_laid_33 : decode cX10_laid 33 = .ok (.if_icmp .ge 6, 3) := dz_at dqX10_laid_p181 5 rfl
theorem dX10_laid_36 : decode cX10_laid 36 = .ok (.bipush (-3), 2) := dz_at dqX10_laid_p181 6 rfl
theorem dX10_laid_38 : decode cX10_laid 38 = .ok (.ireturn, 1) := dz_at dqX10_laid_p181 7 rfl
theorem dX10_laid_39 : decode cX10_laid 39 = .ok (.iconst 0, 1) := dz_at dqX10_laid_p181 8 rfl
theorem dX10_laid_40 : decode cX10_laid 40 = .ok (.istore 6, 2) := dz_at dqX10_laid_p181 9 rfl
theorem dX10_laid_42 : decode cX10_laid 42 = .ok (.iload 6, 2) := dz_at dqX10_laid_p181 10 rfl
theorem dX10_laid_44 : decode cX10_laid 44 = .ok (.iload_n 3, 1) := dz_at dqX10_laid_p181 11 rfl
theorem dX10_laid_45 : decode cX10_laid 45 = .ok (.if_icmp .ge 97, 3) := dz_at dqX10_laid_p181 12 rfl
theorem dX10_laid_48 : decode cX10_laid 48 = .ok (.iload 6, 2) := dz_at dqX10_laid_p181 13 rfl
set_option maxRecDepth 20000 in
theorem dqX10_laid_p182 : dz_rn 50 (cX10_laid.data.toList.drop 50) [(0, 9), (0, 11), (1, 1), (1, 0), (0, 3), (4, 4), (0, 4), (3, 0), (1, 0), (0, 10), (0, 4), (3, 0), (1, 0), (0, 10)] = some [(50, .iconst 1, 1), (51, .iadd, 1), (52, .istore 7, 2), (54, .iload 7, 2), (56, .iload_n 3, 1), (57, .if_icmp .ge 79, 3), (60, .aload_n 0, 1), (61, .getfield 71, 3), (64, .iload 6, 2), (66, .iaload, 1), (67, .aload_n 0, 1), (68, .getfield 71, 3), (71, .iload 7, 2), (73, .iaload, 1)] := by decide +kernel
theorem dX10_laid_50 : decode cX10_laid 50 = .ok (.iconst 1, 1) := dz_at dqX10_laid_p182 0 rfl
theorem dX10_laid_51 : decode cX10_laid 51 = .ok (.iadd, 1) := dz_at dqX10_laid_p182 1 rfl
theorem dX10_laid_52 : decode cX10_laid 52 = .ok (.istore 7, 2) := dz_at dqX10_laid_p182 2 rfl
theorem dX10_laid_54 : decode cX10_laid 54 = .ok (.iload 7, 2) := dz_at dqX10_laid_p182 3 rfl
theorem dX10_laid_56 : decode cX10_laid 56 = .ok (.iload_n 3, 1) := dz_at dqX10_laid_p182 4 rfl
theorem dX10_laid_57 : decode cX10_laid 57 = .ok (.if_icmp .ge 79, 3) := dz_at dqX10_laid_p182 5 rfl
theorem dX10_laid_60 : decode cX10_laid 60 = .ok (.aload_n 0, 1) := dz_at dqX10_laid_p182 6 rfl
theorem dX10_laid_61 : decode cX10_laid 61 = .ok (.getfield 71, 3) := dz_at dqX10_laid_p182 7 rfl
theorem dX10_laid_64 : decode cX10_laid 64 = .ok (.iload 6, 2) := dz_at dqX10_laid_p182 8 rfl
theorem dX10_laid_66 : decode cX10_laid 66 = .ok (.iaload, 1) := dz_at dqX10_laid_p182 9 rfl
theorem dX10_laid_67 : decode cX10_laid 67 = .ok (.aload_n 0, 1) := dz_at dqX10_laid_p182 10 rfl
theorem dX10_laid_68 : decode cX10_laid 68 = .ok (.getfield 71, 3) := dz_at dqX10_laid_p182 11 rfl
theorem dX10_laid_71 : decode cX10_laid 71 = .ok (.iload 7, 2) := dz_at dqX10_laid_p182 12 rfl
theorem dX10_laid_73 : decode cX10_laid 73 = .ok (.iaload, 1) := dz_at dqX10_laid_p182 13 rfl
set_option maxRecDepth 20000 in
theorem dqX10_laid_p183 : dz_rn 74 (cX10_laid.data.toList.drop 74) [(4, 4), (0, 4), (3, 0), (1, 0), (0, 10), (4, 0), (0, 4), (3, 0), (1, 0), (0, 10), (1, 1), (0, 4), (3, 0), (1, 0)] = some [(74, .if_icmp .ge 13, 3), (77, .aload_n 0, 1), (78, .getfield 71, 3), (81, .iload 6, 2), (83, .iaload, 1), (84, .goto 10, 3), (87, .aload_n 0, 1), (88, .getfield 71, 3), (91, .iload 7, 2), (93, .iaload, 1), (94, .istore 8, 2), (96, .aload_n 0, 1), (97, .getfield 71, 3), (100, .iload 7, 2)] := by decide +kernel
theorem dX10_laid_74 : decode cX10_laid 74 = .ok (.if_icmp .ge 13, 3) := dz_at dqX10_laid_p183 0 rfl
theorem dX10_laid_77 : decode cX10_laid 77 = .ok (.aload_n 0, 1) := dz_at dqX10_laid_p183 1 rfl
theorem dX10_laid_78 : decode cX10_laid 78 = .ok (.getfield 71, 3) := dz_at dqX10_laid_p183 2 rfl
theorem dX10_laid_81 : decode cX10_laid 81 = .ok (.iload 6, 2) := dz_at dqX10_laid_p183 3 rfl
theorem dX10_laid_83 : decode cX10_laid 83 = .ok (.iaload, 1) := dz_at dqX10_laid_p183 4 rfl
theorem dX10_laid_84 : decode cX10_laid 84 = .ok (.goto 10, 3) := dz_at dqX10_laid_p183 5 rfl
theorem dX10_laid_87 : decode cX10_laid 87 = .ok (.aload_n 0, 1) := dz_at dqX10_laid_p183 6 rfl
theorem dX10_laid_88 : decode cX10_laid 88 = .ok (.getfield 71, 3) := dz_at dqX10_laid_p183 7 rfl
theorem dX10_laid_91 : decode cX10_laid 91 = .ok (.iload 7, 2) := dz_at dqX10_laid_p183 8 rfl
theorem dX10_laid_93 : decode cX10_laid 93 = .ok (.iaload, 1) := dz_at dqX10_laid_p183 9 rfl
theorem dX10_laid_94 : decode cX10_laid 94 = .ok (.istore 8, 2) := dz_at dqX10_laid_p183 10 rfl
theorem dX10_laid_96 : decode cX10_laid 96 = .ok (.aload_n 0, 1) := dz_at dqX10_laid_p183 11 rfl
theorem dX10_laid_97 : decode cX10_laid 97 = .ok (.getfield 71, 3) := dz_at dqX10_laid_p183 12 rfl
theorem dX10_laid_100 : decode cX10_laid 100 = .ok (.iload 7, 2) := dz_at dqX10_laid_p183 13 rfl
set_option maxRecDepth 20000 in
theorem dqX10_laid_p184 : dz_rn 102 (cX10_laid.data.toList.drop 102) [(0, 4), (3, 0), (1, 0), (0, 10), (0, 4), (3, 0), (1, 0), (0, 10), (0, 11), (1, 0), (0, 26), (0, 22), (0, 4), (3, 0)] = some [(102, .aload_n 0, 1), (103, .getfield 71, 3), (106, .iload 6, 2), (108, .iaload, 1), (109, .aload_n 0, 1), (110, .getfield 71, 3), (113, .iload 7, 2), (115, .iaload, 1), (116, .iadd, 1), (117, .iload 8, 2), (119, .isub, 1), (120, .iastore, 1), (121, .aload_n 0, 1), (122, .getfield 71, 3)] := by decide +kernel
theorem dX10_laid_102 : decode cX10_laid 102 = .ok (.aload_n 0, 1) := dz_at dqX10_laid_p184 0 rfl
theorem dX10_laid_103 : decode cX10_laid 103 = .ok (.getfield 71, 3) := dz_at dqX10_laid_p184 1 rfl
theorem dX10_laid_106 : decode cX10_laid 106 = .ok (.iload 6, 2) := dz_at dqX10_laid_p184 2 rfl
theorem dX10_laid_108 : decode cX10_laid 108 = .ok (.iaload, 1) := dz_at dqX10_laid_p184 3 rfl
theorem dX10_laid_109 : decode cX10_laid 109 = .ok (.aload_n 0, 1) := dz_at dqX10_laid_p184 4 rfl
theorem dX10_laid_110 : decode cX10_laid 110 = .ok (.getfield 71, 3) := dz_at dqX10_laid_p184 5 rfl
theorem dX10_laid_113 : decode cX10_laid 113 = .ok (.iload 7, 2) := dz_at dqX10_laid_p184 6 rfl
theorem dX10_laid_115 : decode cX10_laid 115 = .ok (.iaload, 1) := dz_at dqX10_laid_p184 7 rfl
theorem dX10_laid_116 : decode cX10_laid 116 = .ok (.iadd, 1) := dz_at dqX10_laid_p184 8 rfl
theorem dX10_laid_117 : decode cX10_laid 117 = .ok (.iload 8, 2) := dz_at dqX10_laid_p184 9 rfl
theorem dX10_laid_119 : decode cX10_laid 119 = .ok (.isub, 1) := dz_at dqX10_laid_p184 10 rfl
theorem dX10_laid_120 : decode cX10_laid 120 = .ok (.iastore, 1) := dz_at dqX10_laid_p184 11 rfl
theorem dX10_laid_121 : decode cX10_laid 121 = .ok (.aload_n 0, 1) := dz_at dqX10_laid_p184 12 rfl
theorem dX10_laid_122 : decode cX10_laid 122 = .ok (.getfield 71, 3) := dz_at dqX10_laid_p184 13 rfl
set_option maxRecDepth 20000 in
theorem dqX10_laid_p185 : dz_rn 125 (cX10_laid.data.toList.drop 125) [(1, 0), (1, 0), (0, 22), (5, 0), (4, 0), (5, 0), (4, 0), (0, 4), (0, 3), (0, 9), (3, 1), (1, 0), (0, 13), (4, 2)] = some [(125, .iload 6, 2), (127, .iload 8, 2), (129, .iastore, 1), (130, .iinc 7 1, 3), (133, .goto (-79), 3), (136, .iinc 6 1, 3), (139, .goto (-97), 3), (142, .aload_n 0, 1), (143, .iload_n 3, 1), (144, .iconst 1, 1), (145, .invokevirtual 238, 3), (148, .iload 4, 2), (150, .iconst (-1), 1), (151, .if_icmp .ne 10, 3)] := by decide +kernel
theorem dX10_laid_125 : decode cX10_laid 125 = .ok (.iload 6, 2) := dz_at dqX10_laid_p185 0 rfl
theorem dX10_laid_127 : decode cX10_laid 127 = .ok (.iload 8, 2) := dz_at dqX10_laid_p185 1 rfl
theorem dX10_laid_129 : decode cX10_laid 129 = .ok (.iastore, 1) := dz_at dqX10_laid_p185 2 rfl
theorem dX10_laid_130 : decode cX10_laid 130 = .ok (.iinc 7 1, 3) := dz_at dqX10_laid_p185 3 rfl
theorem dX10_laid_133 : decode cX10_laid 133 = .ok (.goto (-79), 3) := dz_at dqX10_laid_p185 4 rfl
theorem dX10_laid_136 : decode cX10_laid 136 = .ok (.iinc 6 1, 3) := dz_at dqX10_laid_p185 5 rfl
theorem dX10_laid_139 : decode cX10_laid 139 = .ok (.goto (-97), 3) := dz_at dqX10_laid_p185 6 rfl
theorem dX10_laid_142 : decode cX10_laid 142 = .ok (.aload_n 0, 1) := dz_at dqX10_laid_p185 7 rfl
theorem dX10_laid_143 : decode cX10_laid 143 = .ok (.iload_n 3, 1) := dz_at dqX10_laid_p185 8 rfl
theorem dX10_laid_144 : decode cX10_laid 144 = .ok (.iconst 1, 1) := dz_at dqX10_laid_p185 9 rfl
theorem dX10_laid_145 : decode cX10_laid 145 = .ok (.invokevirtual 238, 3) := dz_at dqX10_laid_p185 10 rfl
theorem dX10_laid_148 : decode cX10_laid 148 = .ok (.iload 4, 2) := dz_at dqX10_laid_p185 11 rfl
theorem dX10_laid_150 : decode cX10_laid 150 = .ok (.iconst (-1), 1) := dz_at dqX10_laid_p185 12 rfl
theorem dX10_laid_151 : decode cX10_laid 151 = .ok (.if_icmp .ne 10, 3) := dz_at dqX10_laid_p185 13 rfl
set_option maxRecDepth 20000 in
theorem dqX10_laid_p186 : dz_rn 154 (cX10_laid.data.toList.drop 154) [(0, 4), (3, 0), (4, 0), (1, 0), (0, 3), (4, 4), (0, 4), (3, 0), (1, 0), (0, 10), (4, 0), (0, 13), (0, 12)] = some [(154, .aload_n 0, 1), (155, .getfield 225, 3), (158, .goto 20, 3), (161, .iload 4, 2), (163, .iload_n 3, 1), (164, .if_icmp .ge 13, 3), (167, .aload_n 0, 1), (168, .getfield 77, 3), (171, .iload 4, 2), (173, .iaload, 1), (174, .goto 4, 3), (177, .iconst (-1), 1), (178, .ireturn, 1)] := by decide +kernel
theorem dX10_laid_154 : decode cX10_laid 154 = .ok (.aload_n 0, 1) := dz_at dqX10_laid_p186 0 rfl
theorem dX10_laid_155 : decode cX10_laid 155 = .ok (.getfield 225, 3) := dz_at dqX10_laid_p186 1 rfl
theorem dX10_laid_158 : decode cX10_laid 158 = .ok (.goto 20, 3) := dz_at dqX10_laid_p186 2 rfl
theorem dX10_laid_161 : decode cX10_laid 161 = .ok (.iload 4, 2) := dz_at dqX10_laid_p186 3 rfl
theorem dX10_laid_163 : decode cX10_laid 163 = .ok (.iload_n 3, 1) := dz_at dqX10_laid_p186 4 rfl
theorem dX10_laid_164 : decode cX10_laid 164 = .ok (.if_icmp .ge 13, 3) := dz_at dqX10_laid_p186 5 rfl
theorem dX10_laid_167 : decode cX10_laid 167 = .ok (.aload_n 0, 1) := dz_at dqX10_laid_p186 6 rfl
theorem dX10_laid_168 : decode cX10_laid 168 = .ok (.getfield 77, 3) := dz_at dqX10_laid_p186 7 rfl
theorem dX10_laid_171 : decode cX10_laid 171 = .ok (.iload 4, 2) := dz_at dqX10_laid_p186 8 rfl
theorem dX10_laid_173 : decode cX10_laid 173 = .ok (.iaload, 1) := dz_at dqX10_laid_p186 9 rfl
theorem dX10_laid_174 : decode cX10_laid 174 = .ok (.goto 4, 3) := dz_at dqX10_laid_p186 10 rfl
theorem dX10_laid_177 : decode cX10_laid 177 = .ok (.iconst (-1), 1) := dz_at dqX10_laid_p186 11 rfl
theorem dX10_laid_178 : decode cX10_laid 178 = .ok (.ireturn, 1) := dz_at dqX10_laid_p186 12 rfl
set_option maxRecDepth 20000 in
theorem ggX10_code_X10_in : GoodIn wsX10_code wsX10_in := goodIn_r _ [6] rfl (by decide +kernel)
set_option maxRecDepth 20000 in
theorem gX10_code_X10_in : GoodIn wsX10_code (va_wsS RX10 93 yX10_in wsX10_in) := goodIn_app (goodIn_of _ (by decide +kernel)) ggX10_code_X10_in
set_option maxRecDepth 20000 in
theorem ggX10_code_X10_take : GoodIn wsX10_code wsX10_take := goodIn_r _ [10, 11, 12, 32, 33, 34, 35, 36, 37, 38, 39, 40, 41, 42, 43, 44, 45, 46, 47, 48, 49, 50, 51, 52, 53, 54, 55, 56, 57, 58, 59, 60, 61, 62, 63, 64, 65, 66, 67, 68, 69, 70] rfl (by decide +kernel)
set_option maxRecDepth 20000 in
theorem gX10_code_X10_take : GoodIn wsX10_code (wsV RX10 234 RX10 yX10_take wsX10_take) := goodIn_app (goodIn_of _ (by decide +kernel)) ggX10_code_X10_take
set_option maxRecDepth 20000 in
theorem ggX10_code_X10_findOrder : GoodIn wsX10_code wsX10_findOrder := goodIn_r _ [16, 1, 17, 2, 11, 18, 19, 20, 5, 21, 22, 23, 24, 25, 26, 27, 28, 29, 30, 31, 32, 33, 34, 35, 36, 37, 38, 39, 40, 41, 42, 43, 44, 45, 46, 47, 48, 49, 50, 51, 52, 53, 54, 55, 56, 57, 58, 59, 60, 61, 62, 63, 64, 65, 66, 67, 68, 69, 70] rfl (by decide +kernel)
set_option maxRecDepth 20000 in
theorem gX10_code_X10_findOrder : GoodIn wsX10_code (wsV RX10 238 RX10 yX10_findOrder wsX10_findOrder) := goodIn_app (goodIn_of _ (by decide +kernel)) ggX10_code_X10_findOrder
set_option maxRecDepth 20000 in
theorem dqX10_code_p180 : dz_rn 0 (cX10_code.data.toList.drop 0) [(0, 3), (0, 14), (2, 0), (3, 2), (4, 8), (2, 0), (0, 12), (0, 4), (0, 35), (0, 3), (3, 1), (1, 1), (1, 0), (0, 9)] = some [(0, .iload_n 3, 1), (1, .iconst 2, 1), (2, .bipush 6, 2), (4, .invokestatic 93, 3), (7, .ifCond .ne 6, 3), (10, .bipush (-3), 2), (12, .ireturn, 1), (13, .aload_n 0, 1), (14, .lload_n 1, 1), (15, .iload_n 3, 1), (16, .invokevirtual 234, 3), (19, .istore 5, 2), (21, .iload 5, 2), (23, .iconst 1, 1)] := by decide +kernel
theorem dX10_code_0 : decode cX10_code 0 = .ok (.iload_n 3, 1) := dz_at dqX10_code_p180 0 rfl
theorem dX10_code_1 : decode cX10_code 1 = .ok (.iconst 2, 1) := dz_at dqX10_code_p180 1 rfl
theorem dX10_code_2 : decode cX10_code 2 = .ok (.bipush 6, 2) := dz_at dqX10_code_p180 2 rfl
theorem dX10_code_4 : decode cX10_code 4 = .ok (.invokestatic 93, 3) := dz_at dqX10_code_p180 3 rfl
theorem dX10_code_7 : decode cX10_code 7 = .ok (.ifCond .ne 6, 3) := dz_at dqX10_code_p180 4 rfl
theorem dX10_code_10 : decode cX10_code 10 = .ok (.bipush (-3), 2) := dz_at dqX10_code_p180 5 rfl
theorem dX10_code_12 : decode cX10_code 12 = .ok (.ireturn, 1) := dz_at dqX10_code_p180 6 rfl
theorem dX10_code_13 : decode cX10_code 13 = .ok (.aload_n 0, 1) := dz_at dqX10_code_p180 7 rfl
theorem dX10_code_14 : decode cX10_code 14 = .ok (.lload_n 1, 1) := dz_at dqX10_code_p180 8 rfl
theorem dX10_code_15 : decode cX10_code 15 = .ok (.iload_n 3, 1) := dz_at dqX10_code_p180 9 rfl
theorem dX10_code_16 : decode cX10_code 16 = .ok (.invokevirtual 234, 3) := dz_at dqX10_code_p180 10 rfl
theorem dX10_code_19 : decode cX10_code 19 = .ok (.istore 5, 2) := dz_at dqX10_code_p180 11 rfl
theorem dX10_code_21 : decode cX10_code 21 = .ok (.iload 5, 2) := dz_at dqX10_code_p180 12 rfl
theorem dX10_code_23 : decode cX10_code 23 = .ok (.iconst 1, 1) := dz_at dqX10_code_p180 13 rfl
set_option maxRecDepth 20000 in
theorem dqX10_code_p181 : dz_rn 24 (cX10_code.data.toList.drop 24) [(4, 1), (1, 0), (0, 12), (1, 0), (0, 13), (4, 4), (2, 0), (0, 12), (0, 4), (0, 3), (0, 8), (3, 1), (1, 0), (0, 13)] = some [(24, .if_icmp .eq 6, 3), (27, .iload 5, 2), (29, .ireturn, 1), (30, .iload 4, 2), (32, .iconst (-1), 1), (33, .if_icmp .ge 6, 3), (36, .bipush (-3), 2), (38, .ireturn, 1), (39, .aload_n 0, 1), (40, .iload_n 3, 1), (41, .iconst 0, 1), (42, .invokevirtual 238, 3), (45, .iload 4, 2), (47, .iconst (-1), 1)] := by decide +kernel
theorem dX10_code_24 : decode cX10_code 24 = .ok (.if_icmp .eq 6, 3) := dz_at dqX10_code_p181 0 rfl
theorem dX10_code_27 : decode cX10_code 27 = .ok (.iload 5, 2) := dz_at dqX10_code_p181 1 rfl
theorem dX10_code_29 : decode cX10_code 29 = .ok (.ireturn, 1) := dz_at dqX10_code_p181 2 rfl
theorem dX10_code_30 : decode cX10_code 30 = .ok (.iload 4, 2) := dz_at dqX10_code_p181 3 rfl
theorem dX10_code_32 : decode cX10_code 32 = .ok (.iconst (-1), 1) := dz_at dqX10_code_p181 4 rfl
theorem dX10_code_33 : decode cX10_code 33 = .ok (.if_icmp .ge 6, 3) := dz_at dqX10_code_p181 5 rfl
theorem dX10_code_36 : decode cX10_code 36 = .ok (.bipush (-3), 2) := dz_at dqX10_code_p181 6 rfl
theorem dX10_code_38 : decode cX10_code 38 = .ok (.ireturn, 1) := dz_at dqX10_code_p181 7 rfl
theorem dX10_code_39 : decode cX10_code 39 = .ok (.aload_n 0, 1) := dz_at dqX10_code_p181 8 rfl
theorem dX10_code_40 : decode cX10_code 40 = .ok (.iload_n 3, 1) := dz_at dqX10_code_p181 9 rfl
theorem dX10_code_41 : decode cX10_code 41 = .ok (.iconst 0, 1) := dz_at dqX10_code_p181 10 rfl
theorem dX10_code_42 : decode cX10_code 42 = .ok (.invokevirtual 238, 3) := dz_at dqX10_code_p181 11 rfl
theorem dX10_code_45 : decode cX10_code 45 = .ok (.iload 4, 2) := dz_at dqX10_code_p181 12 rfl
theorem dX10_code_47 : decode cX10_code 47 = .ok (.iconst (-1), 1) := dz_at dqX10_code_p181 13 rfl
set_option maxRecDepth 20000 in
theorem dqX10_code_p182 : dz_rn 48 (cX10_code.data.toList.drop 48) [(4, 2), (0, 4), (3, 0), (4, 0), (1, 0), (0, 3), (4, 4), (0, 4), (3, 0), (1, 0), (0, 10), (4, 0), (0, 13), (0, 12)] = some [(48, .if_icmp .ne 10, 3), (51, .aload_n 0, 1), (52, .getfield 225, 3), (55, .goto 20, 3), (58, .iload 4, 2), (60, .iload_n 3, 1), (61, .if_icmp .ge 13, 3), (64, .aload_n 0, 1), (65, .getfield 77, 3), (68, .iload 4, 2), (70, .iaload, 1), (71, .goto 4, 3), (74, .iconst (-1), 1), (75, .ireturn, 1)] := by decide +kernel
theorem dX10_code_48 : decode cX10_code 48 = .ok (.if_icmp .ne 10, 3) := dz_at dqX10_code_p182 0 rfl
theorem dX10_code_51 : decode cX10_code 51 = .ok (.aload_n 0, 1) := dz_at dqX10_code_p182 1 rfl
theorem dX10_code_52 : decode cX10_code 52 = .ok (.getfield 225, 3) := dz_at dqX10_code_p182 2 rfl
theorem dX10_code_55 : decode cX10_code 55 = .ok (.goto 20, 3) := dz_at dqX10_code_p182 3 rfl
theorem dX10_code_58 : decode cX10_code 58 = .ok (.iload 4, 2) := dz_at dqX10_code_p182 4 rfl
theorem dX10_code_60 : decode cX10_code 60 = .ok (.iload_n 3, 1) := dz_at dqX10_code_p182 5 rfl
theorem dX10_code_61 : decode cX10_code 61 = .ok (.if_icmp .ge 13, 3) := dz_at dqX10_code_p182 6 rfl
theorem dX10_code_64 : decode cX10_code 64 = .ok (.aload_n 0, 1) := dz_at dqX10_code_p182 7 rfl
theorem dX10_code_65 : decode cX10_code 65 = .ok (.getfield 77, 3) := dz_at dqX10_code_p182 8 rfl
theorem dX10_code_68 : decode cX10_code 68 = .ok (.iload 4, 2) := dz_at dqX10_code_p182 9 rfl
theorem dX10_code_70 : decode cX10_code 70 = .ok (.iaload, 1) := dz_at dqX10_code_p182 10 rfl
theorem dX10_code_71 : decode cX10_code 71 = .ok (.goto 4, 3) := dz_at dqX10_code_p182 11 rfl
theorem dX10_code_74 : decode cX10_code 74 = .ok (.iconst (-1), 1) := dz_at dqX10_code_p182 12 rfl
theorem dX10_code_75 : decode cX10_code 75 = .ok (.ireturn, 1) := dz_at dqX10_code_p182 13 rfl
set_option maxHeartbeats 4000000 in
set_option maxRecDepth 100000 in
theorem k_X10_take (l : Launch) (dC : Nat → ClassId) (dI : Nat → Nat → Nat) (cI cZ cQ : ClassId) (b : Nat → Nat) (mday : Int32) (mdoo : Int32) (mdA : Nat → Int32) (mdB : Nat → Int32) (mfar : Nat → Int32) (mmar : Nat → Int32) (mtel : Int32) (mgai : Int32) (mfal : Nat → Int32) (mtop : Nat → Int32) (mstr : Nat → Int32) (mgho : Nat → Int32) (mfai : Nat → Int32) (mpto : Nat → Int32) (mwal : Nat → Int32) (mahd : Nat → Int32) (mahf : Nat → Int32) (mcho : Nat → Int32) (mbes : Nat → Int32) (mbyt : Int32) (mtxt : Nat → Int32) (mpos : Int32) (mtka : Int32) (mtok : Int64) (mdig : Int32) (mnum : Int32) (mfau : Int32) (mrdm : Int32) (mrea : Nat → Int32) (mlin : Int32) (mlne : Nat → Int32) (mthg : Nat → Int32) (mord : Nat → Int32) (mbor : Nat → Int32) (mbsm : Int32) (mans : Nat → Int32) (mand : Nat → Int32) (manr : Nat → Int32) (mali : Nat → Int32) (sz : Nat) (row : Int64) (n : Int32) (r_mday : 0 ≤ mday.toInt ∧ mday.toInt ≤ 400) (r_mdoo : 0 ≤ mdoo.toInt ∧ mdoo.toInt ≤ 14) (r_mdA : rg 14 (0) (7) mdA) (r_mdB : rg 14 (0) (7) mdB) (r_mmar : rg 24 (0) (255) mmar) (r_mgai : 0 ≤ mgai.toInt ∧ mgai.toInt ≤ 100) (r_mfal : rg 11 (0) (30) mfal) (r_mtop : rg 48 (-1) (23) mtop) (r_mstr : rg 48 (0) (100) mstr) (r_mgho : rg 48 (-1) (23) mgho) (r_mfai : rg 48 (0) (100) mfai) (r_mahd : rg 240 (0) (100) mahd) (r_mahf : rg 240 (0) (100) mahf) (r_mcho : rg 5 (-1) (9) mcho) (r_mbyt : 0 ≤ mbyt.toInt ∧ mbyt.toInt ≤ 160) (r_mpos : 0 ≤ mpos.toInt ∧ mpos.toInt ≤ 160) (r_mrdm : 0 ≤ mrdm.toInt ∧ mrdm.toInt ≤ 10) (r_mlin : 0 ≤ mlin.toInt ∧ mlin.toInt ≤ 10) (r_mthg : rg 8 (0) (31) mthg) (r_mord : rg 8 (-1) (8) mord) (r_mans : rg 4 (0) (12) mans) (q0 : 1 ≤ n.toInt) (q1 : n.toInt ≤ 8) : KW l yX10_take wsX10_take { frames := 0, cells := 0, slots := 0, locals := 0 } (dC, dI) (TY cI cZ cQ) (wMod cI cZ cQ b mday mdoo mdA mdB mfar mmar mtel mgai mfal mtop mstr mgho mfai mpto mwal mahd mahf mcho mbes mbyt mtxt mpos mtka mtok mdig mnum mfau mrdm mrea mlin mlne mthg mord mbor mbsm mans mand manr mali) [.ref (b 39), .long row, .int n] sz 0 0 (fun (r : Int32) (u : US) => ((((r = 1) ∧ (∀ j : Nat, (j : Int) < n.toInt → ((u.1 0) j).toInt ≤ 23)) ∨ ((r = (-2))) ∨ ((r = (-3))))) ∧ (rg 8 (0) (31) (u.1 0))) (fun u : US => (wMod cI cZ cQ b mday mdoo mdA mdB mfar mmar mtel mgai mfal mtop mstr mgho mfai mpto mwal mahd mahf mcho mbes mbyt mtxt mpos mtka mtok mdig mnum mfau mrdm mrea mlin mlne (u.1 0) mord mbor mbsm mans mand manr mali)) := by
  refine Met.ofW (cc := cX10_take) (maxL := 7) (ret := (some .int)) (by decide) rfl ?_
  intro p e s m args below meth c s₁ B hml hv
  obtain ⟨rfl, hsz, hP, hK, hD0, hN⟩ := hv
  have hx := B.exec
  have hb := B.bytes
  have hr := B.returns
  have hts := atoms_spec (ws := wsX10_take) B.pre
  have hown : s.vm.findClass RX10 = some m.cls := findClass_of_methodNamed B.named
  have hlocks := B.notSynchronized
  have lf71 := hts (.fieldLink RX10 71 "PalaceOfRoomsModel" "things" "[I") (List.mem_cons_of_mem _ (List.mem_append_left _ (List.mem_of_getElem? (i := 0) rfl)))
  have inX10 : ∀ w ∈ wsX100, w ∈ wsX10_take := fun w h => List.mem_cons_of_mem _ (List.mem_append_right _ h)
  subst hsz
  have hD := hD0.self (sz := s.heap.size)
  generalize hAe : va_A (wMod cI cZ cQ b mday mdoo mdA mdB mfar mmar mtel mgai mfal mtop mstr mgho mfai mpto mwal mahd mahf mcho mbes mbyt mtxt mpos mtka mtok mdig mnum mfau mrdm mrea mlin mlne mthg mord mbor mbsm mans mand manr mali) s.heap.size = A at hD ⊢
  have hA : ∀ q : Nat, s.heap.size ≤ q → A q := fun q h => by rw [← hAe]; exact Or.inr h
  have hS : va_S A s.heap s.heap [] := va_S.rf
  have hl := lv_entry ([.ref (b 39), .long row, .int n]) (n := 7) (Nat.le_of_ble_eq_true rfl)
  rw [lg_entry_eq]
  generalize (lg_sl ([.ref (b 39), .long row, .int n]) ++ List.replicate (7 - (lg_sl ([.ref (b 39), .long row, .int n])).length) Slot.unset).toArray = ls at hl ⊢
  have hl : lv_has ls 7 [(0, .ref (b 39)), (1, .long row), (3, .int n)] := hl
  refine lv_iconst (v := 0) hx hb dX10_take_0 (by decide) ?_
  refine lv_istore (lv' := [(4, .int 0), (0, .ref (b 39)), (1, .long row), (3, .int n)]) hx hb dX10_take_1 hl (by decide) rfl (fun ls hl => ?_)
  refine lv_iconst (v := 0) hx hb dX10_take_3 (by decide) ?_
  refine lv_istore (lv' := [(5, .int 0), (4, .int 0), (0, .ref (b 39)), (1, .long row), (3, .int n)]) hx hb dX10_take_4 hl (by decide) rfl (fun ls hl => ?_)
  refine lv_iconst (v := 0) hx hb dX10_take_6 (by decide) ?_
  refine lv_istore (lv' := [(6, .int 0), (5, .int 0), (4, .int 0), (0, .ref (b 39)), (1, .long row), (3, .int n)]) hx hb dX10_take_7 hl (by decide) rfl (fun ls hl => ?_)
  have L9 : ∀ (nn : Nat) (y9_4 : Int32) (y9_5 : Int32) (y9_6 : Int32) (mthg_9 : Nat → Int32) (H : Heap) (locs : List Loc) (ls : Array Slot), (rg 8 (0) (31) mthg_9) → (0 ≤ (y9_6.toInt)) → ((y9_6.toInt) ≤ 8) → (∀ j : Nat, (j : Int) < (y9_6.toInt) → (mthg_9 j).toInt ≤ 23) → (8 - (y9_6.toInt)).toNat < nn → va_P (dC, dI) vwCl (wMod cI cZ cQ b mday mdoo mdA mdB mfar mmar mtel mgai mfal mtop mstr mgho mfai mpto mwal mahd mahf mcho mbes mbyt mtxt mpos mtka mtok mdig mnum mfau mrdm mrea mlin mlne mthg_9 mord mbor mbsm mans mand manr mali) H → va_D A (wMod cI cZ cQ b mday mdoo mdA mdB mfar mmar mtel mgai mfal mtop mstr mgho mfai mpto mwal mahd mahf mcho mbes mbyt mtxt mpos mtka mtok mdig mnum mfau mrdm mrea mlin mlne mthg_9 mord mbor mbsm mans mand manr mali) → va_S A s.heap H locs → lv_has ls 7 [(0, .ref (b 39)), (1, .long row), (3, .int n), (4, .int y9_4), (5, .int y9_5), (6, .int y9_6)] → W p l e (headSpec wsX10_take { frames := 0, cells := 0, slots := 0, locals := 0 }).room s m ([.ref (b 39), .long row, .int n] : List Value).toArray below meth c H locs 0 0 (MQ below (va_Qi (fun (r : Int32) (u : US) => ((((r = 1) ∧ (∀ j : Nat, (j : Int) < n.toInt → ((u.1 0) j).toInt ≤ 23)) ∨ ((r = (-2))) ∨ ((r = (-3))))) ∧ (rg 8 (0) (31) (u.1 0))) (Bw (dC, dI) A (fun u : US => (wMod cI cZ cQ b mday mdoo mdA mdB mfar mmar mtel mgai mfal mtop mstr mgho mfai mpto mwal mahd mahf mcho mbes mbyt mtxt mpos mtka mtok mdig mnum mfau mrdm mrea mlin mlne (u.1 0) mord mbor mbsm mans mand manr mali))) A) ([.ref (b 39), .long row, .int n] : List Value).toArray s 0 0 A) (F0 m 9 ls []) := by
    intro nn
    induction nn with
    | zero =>
      intro y9_4 y9_5 y9_6 mthg_9 H locs ls r_mthg_9 i9_0 i9_1 i9_2 hm9
      exact absurd hm9 (Nat.not_lt_zero _)
    | succ nn ih9 =>
      intro y9_4 y9_5 y9_6 mthg_9 H locs ls r_mthg_9 i9_0 i9_1 i9_2 hm9 hP hD hS hl
      refine lv_iload hx hb dX10_take_9 (lv_at hl 5 rfl) ?_
      refine lv_iload_n hx hb dX10_take_11 rfl (lv_at hl 2 rfl) ?_
      refine lv_icmp_ge (tgt := 96) hx hb dX10_take_12 (by decide) (fun c1 => ?_) (fun c1 => ?_)
      · have dc1 : n.toInt ≤ y9_6.toInt := leC rfl rfl c1
        refine lv_iload hx hb dX10_take_96 (lv_at hl 4 rfl) ?_
        refine lv_if_eq (tgt := 106) hx hb dX10_take_98 (by decide) (fun c2 => ?_) (fun c2 => ?_)
        · have dc2 : y9_5.toInt = 0 := eqC rfl (show (0 : Int32).toInt = 0 from rfl) c2
          refine lv_iconst (v := 1) hx hb dX10_take_106 (by decide) ?_
          exact W.iret (v := 1) hx hb hr (fun tq ht hW => ⟨⟨1, (uS [mthg_9] 0 (fun _ => 0)), rfl, ⟨(Or.inl (⟨rfl, (show ∀ j : Nat, (j : Int) < n.toInt → (mthg_9 j).toInt ≤ 23 from by (try rw [show (1 : Int32).toInt = 1 from (show (1 : Int32).toInt = 1 from rfl)]); (intro j hj; exact i9_2 j (by omega)))⟩)), r_mthg_9⟩, by rw [ht]; exact hP, hD⟩, hS.F ht⟩) hS.2.2 dX10_take_107
        · have dc2 : y9_5.toInt ≠ 0 := neC rfl (show (0 : Int32).toInt = 0 from rfl) c2
          refine lv_bipush (v := (-3)) hx hb dX10_take_101 (by decide) ?_
          refine lv_goto (tgt := 107) hx hb dX10_take_103 (by decide) ?_
          exact W.iret (v := (-3)) hx hb hr (fun tq ht hW => ⟨⟨(-3), (uS [mthg_9] 0 (fun _ => 0)), rfl, ⟨(Or.inr (Or.inr rfl)), r_mthg_9⟩, by rw [ht]; exact hP, hD⟩, hS.F ht⟩) hS.2.2 dX10_take_107
      · have dc1 : y9_6.toInt < n.toInt := nleC rfl rfl c1
        refine lv_aload_n hx hb dX10_take_15 rfl (lv_at hl 0 rfl) ?_
        refine va_get (D := (dC, dI)) (ci := 10) (v := .ref (b 31)) (C := RX10) (T := TX10) (N := 39) hx hb hts inX10 hown hK hP 0 rfl rfl 31 (by decide) lf71 (fun _ h9 => h9) rfl dX10_take_16 ?_
        refine lv_iload hx hb dX10_take_19 (lv_at hl 5 rfl) ?_
        refine lv_lload_n hx hb dX10_take_21 rfl (lv_at hl 1 rfl) ?_
        refine lv_iconst (v := 5) hx hb dX10_take_22 (by decide) ?_
        refine lv_iload hx hb dX10_take_23 (lv_at hl 5 rfl) ?_
        refine lv_imul hx hb dX10_take_25 ?_
        have f3 : (5 * y9_6).toInt = (5) * (y9_6.toInt) := mulC (show (5 : Int32).toInt = 5 from rfl) rfl (by omega) (by omega)
        refine lv_lshr hx hb dX10_take_26 rfl ?_
        refine lv_ldc2 (v := 31) hx hb hown (hts (.constantLong RX10 223 (31)) (List.mem_cons_of_mem _ (List.mem_append_left _ (List.mem_of_getElem? (i := 1) rfl)))) dX10_take_27 ?_
        refine lv_land hx hb dX10_take_30 ?_
        refine lv_l2i hx hb dX10_take_31 rfl ?_
        have f4 : 0 ≤ (((row >>> ((5 * y9_6).toInt64 &&& 63)) &&& 31).toInt32).toInt ∧ (((row >>> ((5 * y9_6).toInt64 &&& 63)) &&& 31).toInt32).toInt ≤ 31 := l2iM31 _
        refine lv_topi (fun x5 ex5 => ?_)
        have ix5 : x5.toInt = (((row >>> ((5 * y9_6).toInt64 &&& 63)) &&& 31).toInt32).toInt := by rw [ex5]
        have b6 : vp_in y9_6 8 := inC rfl (by omega) (by omega)
        have g7 : rg 8 (0) (31) (upd mthg_9 y9_6.toNatClampNeg x5) := rg_upd r_mthg_9 rfl (by omega) (by omega)
        refine va_iast hx hb hK hP hD hS 19 0 rfl rfl b6 dX10_take_32 (fun H locs hP hD hS => ?_)
        obtain ⟨mthg_u8, emthg_u8⟩ : ∃ f : Nat → Int32, f = upd mthg_9 y9_6.toNatClampNeg x5 := ⟨_, rfl⟩
        have rmthg_u8 : rg 8 (0) (31) mthg_u8 := by rw [emthg_u8]; exact g7
        have hP : va_P (dC, dI) vwCl (wMod cI cZ cQ b mday mdoo mdA mdB mfar mmar mtel mgai mfal mtop mstr mgho mfai mpto mwal mahd mahf mcho mbes mbyt mtxt mpos mtka mtok mdig mnum mfau mrdm mrea mlin mlne mthg_u8 mord mbor mbsm mans mand manr mali) H := by rw [emthg_u8]; exact hP
        have hD : va_D A (wMod cI cZ cQ b mday mdoo mdA mdB mfar mmar mtel mgai mfal mtop mstr mgho mfai mpto mwal mahd mahf mcho mbes mbyt mtxt mpos mtka mtok mdig mnum mfau mrdm mrea mlin mlne mthg_u8 mord mbor mbsm mans mand manr mali) := by rw [emthg_u8]; exact hD
        refine lv_aload_n hx hb dX10_take_33 rfl (lv_at hl 0 rfl) ?_
        refine va_get (D := (dC, dI)) (ci := 10) (v := .ref (b 31)) (C := RX10) (T := TX10) (N := 39) hx hb hts inX10 hown hK hP 0 rfl rfl 31 (by decide) lf71 (fun _ h9 => h9) rfl dX10_take_34 ?_
        refine lv_iload hx hb dX10_take_37 (lv_at hl 5 rfl) ?_
        have b9 : vp_in y9_6 8 := inC rfl (by omega) (by omega)
        refine va_iald hx hb hK hP 19 0 rfl rfl b9 dX10_take_39 ?_
        have g10 : 0 ≤ (mthg_u8 y9_6.toNatClampNeg).toInt ∧ (mthg_u8 y9_6.toNatClampNeg).toInt ≤ 31 := rg_at rmthg_u8 b9
        have o11 : (mthg_u8 y9_6.toNatClampNeg).toInt = x5.toInt := by rw [emthg_u8, pk_us]
        refine lv_bipush (v := 23) hx hb dX10_take_40 (by decide) ?_
        refine lv_icmp_le (tgt := 48) hx hb dX10_take_42 (by decide) (fun c12 => ?_) (fun c12 => ?_)
        · have dc12 : (mthg_u8 y9_6.toNatClampNeg).toInt ≤ 23 := leC rfl (show (23 : Int32).toInt = 23 from rfl) c12
          have L76 : ∀ (y76_5 : Int32) (H : Heap) (locs : List Loc) (ls : Array Slot), va_P (dC, dI) vwCl (wMod cI cZ cQ b mday mdoo mdA mdB mfar mmar mtel mgai mfal mtop mstr mgho mfai mpto mwal mahd mahf mcho mbes mbyt mtxt mpos mtka mtok mdig mnum mfau mrdm mrea mlin mlne mthg_u8 mord mbor mbsm mans mand manr mali) H → va_D A (wMod cI cZ cQ b mday mdoo mdA mdB mfar mmar mtel mgai mfal mtop mstr mgho mfai mpto mwal mahd mahf mcho mbes mbyt mtxt mpos mtka mtok mdig mnum mfau mrdm mrea mlin mlne mthg_u8 mord mbor mbsm mans mand manr mali) → va_S A s.heap H locs → lv_has ls 7 [(0, .ref (b 39)), (1, .long row), (3, .int n), (4, .int y9_4), (5, .int y76_5), (6, .int y9_6)] → W p l e (headSpec wsX10_take { frames := 0, cells := 0, slots := 0, locals := 0 }).room s m ([.ref (b 39), .long row, .int n] : List Value).toArray below meth c H locs 0 0 (MQ below (va_Qi (fun (r : Int32) (u : US) => ((((r = 1) ∧ (∀ j : Nat, (j : Int) < n.toInt → ((u.1 0) j).toInt ≤ 23)) ∨ ((r = (-2))) ∨ ((r = (-3))))) ∧ (rg 8 (0) (31) (u.1 0))) (Bw (dC, dI) A (fun u : US => (wMod cI cZ cQ b mday mdoo mdA mdB mfar mmar mtel mgai mfal mtop mstr mgho mfai mpto mwal mahd mahf mcho mbes mbyt mtxt mpos mtka mtok mdig mnum mfau mrdm mrea mlin mlne (u.1 0) mord mbor mbsm mans mand manr mali))) A) ([.ref (b 39), .long row, .int n] : List Value).toArray s 0 0 A) (F0 m 76 ls []) := by
            intro y76_5 H locs ls  hP hD hS hl
            refine lv_iload hx hb dX10_take_76 (lv_at hl 3 rfl) ?_
            refine lv_iconst (v := 1) hx hb dX10_take_78 (by decide) ?_
            refine lv_aload_n hx hb dX10_take_79 rfl (lv_at hl 0 rfl) ?_
            refine va_get (D := (dC, dI)) (ci := 10) (v := .ref (b 31)) (C := RX10) (T := TX10) (N := 39) hx hb hts inX10 hown hK hP 0 rfl rfl 31 (by decide) lf71 (fun _ h9 => h9) rfl dX10_take_80 ?_
            refine lv_iload hx hb dX10_take_83 (lv_at hl 5 rfl) ?_
            have b13 : vp_in y9_6 8 := inC rfl (by omega) (by omega)
            refine va_iald hx hb hK hP 19 0 rfl rfl b13 dX10_take_85 ?_
            have g14 : 0 ≤ (mthg_u8 y9_6.toNatClampNeg).toInt ∧ (mthg_u8 y9_6.toNatClampNeg).toInt ≤ 31 := rg_at rmthg_u8 b13
            have o15 : (mthg_u8 y9_6.toNatClampNeg).toInt = x5.toInt := by rw [emthg_u8, pk_us]
            refine lv_ishl hx hb dX10_take_86 ?_
            refine lv_ior hx hb dX10_take_87 ?_
            refine lv_topi (fun x16 ex16 => ?_)
            have ix16 : x16.toInt = (y9_4 ||| ((1 : Int32) <<< ((mthg_u8 y9_6.toNatClampNeg) &&& 31))).toInt := by rw [ex16]
            refine lv_istore (lv' := [(4, .int x16), (0, .ref (b 39)), (1, .long row), (3, .int n), (5, .int y76_5), (6, .int y9_6)]) hx hb dX10_take_88 hl (by decide) rfl (fun ls hl => ?_)
            obtain ⟨z17, ez17⟩ : ∃ y : Int32, y = y9_6 + 1 := ⟨_, rfl⟩
            have iz17 : z17.toInt = y9_6.toInt + 1 := by rw [ez17]; exact addC rfl rfl (by omega) (by omega)
            refine lv_iinc (v := z17) (lv' := [(6, .int z17), (4, .int x16), (0, .ref (b 39)), (1, .long row), (3, .int n), (5, .int y76_5)]) hx hb dX10_take_90 hl (k := 5) rfl (by rw [ez17]; rfl) (by decide) rfl (fun ls hl => ?_)
            refine lv_goto (tgt := 9) hx hb dX10_take_93 (by decide) ?_
            exact ih9 x16 y76_5 z17 mthg_u8 _ _ _ rmthg_u8 (by omega) (by omega) (by (first | exact th_step emthg_u8 i9_2 rfl (by omega) (by omega) (by omega) | (intro j hj; omega))) (by omega) hP hD hS (lv_sub hl [2, 3, 4, 1, 5, 0] rfl)
          refine lv_iload hx hb dX10_take_48 (lv_at hl 4 rfl) ?_
          refine lv_if_ne (tgt := 69) hx hb dX10_take_50 (by decide) (fun c18 => ?_) (fun c18 => ?_)
          · have dc18 : y9_5.toInt ≠ 0 := neC rfl (show (0 : Int32).toInt = 0 from rfl) c18
            refine lv_iconst (v := 1) hx hb dX10_take_69 (by decide) ?_
            refine lv_goto (tgt := 74) hx hb dX10_take_70 (by decide) ?_
            refine lv_istore (lv' := [(5, .int 1), (0, .ref (b 39)), (1, .long row), (3, .int n), (4, .int y9_4), (6, .int y9_6)]) hx hb dX10_take_74 hl (by decide) rfl (fun ls hl => ?_)
            have kc19 : (1 : Int32).toInt = 1 := rfl
            exact L76 1 _ _ _  hP hD hS (lv_sub hl [1, 2, 3, 4, 0, 5] rfl)
          · have dc18 : y9_5.toInt = 0 := eqC rfl (show (0 : Int32).toInt = 0 from rfl) c18
            refine lv_iload hx hb dX10_take_53 (lv_at hl 3 rfl) ?_
            refine lv_aload_n hx hb dX10_take_55 rfl (lv_at hl 0 rfl) ?_
            refine va_get (D := (dC, dI)) (ci := 10) (v := .ref (b 31)) (C := RX10) (T := TX10) (N := 39) hx hb hts inX10 hown hK hP 0 rfl rfl 31 (by decide) lf71 (fun _ h9 => h9) rfl dX10_take_56 ?_
            refine lv_iload hx hb dX10_take_59 (lv_at hl 5 rfl) ?_
            have b20 : vp_in y9_6 8 := inC rfl (by omega) (by omega)
            refine va_iald hx hb hK hP 19 0 rfl rfl b20 dX10_take_61 ?_
            have g21 : 0 ≤ (mthg_u8 y9_6.toNatClampNeg).toInt ∧ (mthg_u8 y9_6.toNatClampNeg).toInt ≤ 31 := rg_at rmthg_u8 b20
            have o22 : (mthg_u8 y9_6.toNatClampNeg).toInt = x5.toInt := by rw [emthg_u8, pk_us]
            refine lv_ishr hx hb dX10_take_62 ?_
            refine lv_iconst (v := 1) hx hb dX10_take_63 (by decide) ?_
            refine lv_iand hx hb dX10_take_64 ?_
            have f23 := andR (a := (y9_4 >>> ((mthg_u8 y9_6.toNatClampNeg) &&& 31))) (m := 1) (M := 1) rfl (by decide)
            refine lv_iconst (v := 1) hx hb dX10_take_65 (by decide) ?_
            refine lv_icmp_ne (tgt := 73) hx hb dX10_take_66 (by decide) (fun c24 => ?_) (fun c24 => ?_)
            · have dc24 : ((y9_4 >>> ((mthg_u8 y9_6.toNatClampNeg) &&& 31)) &&& 1).toInt ≤ 0 := ka_hi (by omega) (neC rfl (show (1 : Int32).toInt = 1 from rfl) c24)
              refine lv_iconst (v := 0) hx hb dX10_take_73 (by decide) ?_
              refine lv_istore (lv' := [(5, .int 0), (0, .ref (b 39)), (1, .long row), (3, .int n), (4, .int y9_4), (6, .int y9_6)]) hx hb dX10_take_74 hl (by decide) rfl (fun ls hl => ?_)
              have kc25 : (0 : Int32).toInt = 0 := rfl
              exact L76 0 _ _ _  hP hD hS (lv_sub hl [1, 2, 3, 4, 0, 5] rfl)
            · have dc24 : ((y9_4 >>> ((mthg_u8 y9_6.toNatClampNeg) &&& 31)) &&& 1).toInt = 1 := eqC rfl (show (1 : Int32).toInt = 1 from rfl) c24
              refine lv_iconst (v := 1) hx hb dX10_take_69 (by decide) ?_
              refine lv_goto (tgt := 74) hx hb dX10_take_70 (by decide) ?_
              refine lv_istore (lv' := [(5, .int 1), (0, .ref (b 39)), (1, .long row), (3, .int n), (4, .int y9_4), (6, .int y9_6)]) hx hb dX10_take_74 hl (by decide) rfl (fun ls hl => ?_)
              have kc26 : (1 : Int32).toInt = 1 := rfl
              exact L76 1 _ _ _  hP hD hS (lv_sub hl [1, 2, 3, 4, 0, 5] rfl)
        · have dc12 : 23 < (mthg_u8 y9_6.toNatClampNeg).toInt := nleC rfl (show (23 : Int32).toInt = 23 from rfl) c12
          refine lv_bipush (v := (-2)) hx hb dX10_take_45 (by decide) ?_
          exact W.iret (v := (-2)) hx hb hr (fun tq ht hW => ⟨⟨(-2), (uS [mthg_u8] 0 (fun _ => 0)), rfl, ⟨(Or.inr (Or.inl rfl)), rmthg_u8⟩, by rw [ht]; exact hP, hD⟩, hS.F ht⟩) hS.2.2 dX10_take_47
  have kc27 : (0 : Int32).toInt = 0 := rfl
  exact L9 _ 0 0 0 mthg _ _ _ r_mthg (by omega) (by omega) (by (first | (intro j hj; omega) | exact th_step emthg i9_2 rfl (by omega) (by omega) (by omega))) (Nat.lt_succ_self _) hP hD hS (lv_sub hl [3, 4, 5, 2, 1, 0] rfl)
set_option maxHeartbeats 4000000 in
set_option maxRecDepth 100000 in
theorem k_X10_speechOf (l : Launch) (dC : Nat → ClassId) (dI : Nat → Nat → Nat) (cI cZ cQ : ClassId) (b : Nat → Nat) (mday : Int32) (mdoo : Int32) (mdA : Nat → Int32) (mdB : Nat → Int32) (mfar : Nat → Int32) (mmar : Nat → Int32) (mtel : Int32) (mgai : Int32) (mfal : Nat → Int32) (mtop : Nat → Int32) (mstr : Nat → Int32) (mgho : Nat → Int32) (mfai : Nat → Int32) (mpto : Nat → Int32) (mwal : Nat → Int32) (mahd : Nat → Int32) (mahf : Nat → Int32) (mcho : Nat → Int32) (mbes : Nat → Int32) (mbyt : Int32) (mtxt : Nat → Int32) (mpos : Int32) (mtka : Int32) (mtok : Int64) (mdig : Int32) (mnum : Int32) (mfau : Int32) (mrdm : Int32) (mrea : Nat → Int32) (mlin : Int32) (mlne : Nat → Int32) (mthg : Nat → Int32) (mord : Nat → Int32) (mbor : Nat → Int32) (mbsm : Int32) (mans : Nat → Int32) (mand : Nat → Int32) (manr : Nat → Int32) (mali : Nat → Int32) (n : Int32) (r_mday : 0 ≤ mday.toInt ∧ mday.toInt ≤ 400) (r_mdoo : 0 ≤ mdoo.toInt ∧ mdoo.toInt ≤ 14) (r_mdA : rg 14 (0) (7) mdA) (r_mdB : rg 14 (0) (7) mdB) (r_mmar : rg 24 (0) (255) mmar) (r_mgai : 0 ≤ mgai.toInt ∧ mgai.toInt ≤ 100) (r_mfal : rg 11 (0) (30) mfal) (r_mtop : rg 48 (-1) (23) mtop) (r_mstr : rg 48 (0) (100) mstr) (r_mgho : rg 48 (-1) (23) mgho) (r_mfai : rg 48 (0) (100) mfai) (r_mahd : rg 240 (0) (100) mahd) (r_mahf : rg 240 (0) (100) mahf) (r_mcho : rg 5 (-1) (9) mcho) (r_mbyt : 0 ≤ mbyt.toInt ∧ mbyt.toInt ≤ 160) (r_mpos : 0 ≤ mpos.toInt ∧ mpos.toInt ≤ 160) (r_mrdm : 0 ≤ mrdm.toInt ∧ mrdm.toInt ≤ 10) (r_mlin : 0 ≤ mlin.toInt ∧ mlin.toInt ≤ 10) (r_mthg : rg 8 (0) (31) mthg) (r_mord : rg 8 (-1) (8) mord) (r_mans : rg 4 (0) (12) mans) (q0 : 1 ≤ n.toInt) (q1 : n.toInt ≤ 8) (q2 : ∀ j : Nat, (j : Int) < n.toInt → (mthg j).toInt ≤ 23) (q3 : ∀ j : Nat, (j : Int) < n.toInt → 0 ≤ (mord j).toInt ∧ (mord j).toInt < n.toInt) : KR l yX10_speechOf wsX10_speechOf { frames := 1, cells := 0, slots := 0, locals := 25 } (dC, dI) (TY cI cZ cQ) (wMod cI cZ cQ b mday mdoo mdA mdB mfar mmar mtel mgai mfal mtop mstr mgho mfai mpto mwal mahd mahf mcho mbes mbyt mtxt mpos mtka mtok mdig mnum mfau mrdm mrea mlin mlne mthg mord mbor mbsm mans mand manr mali) [.ref (b 39), .int n] (fun r : Int32 => True) := by
  refine Met.ofW (cc := cX10_speechOf) (maxL := 4) (ret := (some .int)) (by decide) rfl ?_
  intro p e s m args below meth c s₁ B hml hv
  obtain ⟨rfl, hP, hK, hN⟩ := hv
  have hx := B.exec
  have hb := B.bytes
  have hr := B.returns
  have hts := atoms_spec (ws := wsX10_speechOf) B.pre
  have hown : s.vm.findClass RX10 = some m.cls := findClass_of_methodNamed B.named
  have hlocks := B.notSynchronized
  have lf71 := hts (.fieldLink RX10 71 "PalaceOfRoomsModel" "things" "[I") (List.mem_cons_of_mem _ (List.mem_append_left _ (List.mem_of_getElem? (i := 0) rfl)))
  have inX10 : ∀ w ∈ wsX100, w ∈ wsX10_speechOf := fun w h => List.mem_cons_of_mem _ (List.mem_append_right _ h)
  have lf74 := hts (.fieldLink RX10 74 "PalaceOfRoomsModel" "order" "[I") (List.mem_cons_of_mem _ (List.mem_append_left _ (List.mem_of_getElem? (i := 1) rfl)))
  have hl := lv_entry ([.ref (b 39), .int n]) (n := 4) (Nat.le_of_ble_eq_true rfl)
  rw [lg_entry_eq]
  generalize (lg_sl ([.ref (b 39), .int n]) ++ List.replicate (4 - (lg_sl ([.ref (b 39), .int n])).length) Slot.unset).toArray = ls at hl ⊢
  have hl : lv_has ls 4 [(0, .ref (b 39)), (1, .int n)] := hl
  refine lv_iconst (v := 0) hx hb dX10_speechOf_0 (by decide) ?_
  refine lv_istore_n (lv' := [(2, .int 0), (0, .ref (b 39)), (1, .int n)]) hx hb dX10_speechOf_1 rfl hl (by decide) rfl (fun ls hl => ?_)
  refine lv_iconst (v := 1) hx hb dX10_speechOf_2 (by decide) ?_
  refine lv_istore_n (lv' := [(3, .int 1), (2, .int 0), (0, .ref (b 39)), (1, .int n)]) hx hb dX10_speechOf_3 rfl hl (by decide) rfl (fun ls hl => ?_)
  have L4 : ∀ (nn : Nat) (y4_2 : Int32) (y4_3 : Int32) (ls : Array Slot), (1 ≤ (y4_3.toInt)) → ((y4_3.toInt) ≤ 8) → (8 - (y4_3.toInt)).toNat < nn → lv_has ls 4 [(0, .ref (b 39)), (1, .int n), (2, .int y4_2), (3, .int y4_3)] → W p l e (headSpec wsX10_speechOf { frames := 1, cells := 0, slots := 0, locals := 25 }).room s m ([.ref (b 39), .int n] : List Value).toArray below meth c s.heap [] 0 0 (MQ below (QR (fun r : Int32 => True)) ([.ref (b 39), .int n] : List Value).toArray s 0 0 (fun _ => False)) (F0 m 4 ls []) := by
    intro nn
    induction nn with
    | zero =>
      intro y4_2 y4_3 ls i4_0 i4_1 hm4
      exact absurd hm4 (Nat.not_lt_zero _)
    | succ nn ih4 =>
      intro y4_2 y4_3 ls i4_0 i4_1 hm4 hl
      refine lv_iload_n hx hb dX10_speechOf_4 rfl (lv_at hl 3 rfl) ?_
      refine lv_iload_n hx hb dX10_speechOf_5 rfl (lv_at hl 1 rfl) ?_
      refine lv_icmp_ge (tgt := 46) hx hb dX10_speechOf_6 (by decide) (fun c1 => ?_) (fun c1 => ?_)
      · have dc1 : n.toInt ≤ y4_3.toInt := leC rfl rfl c1
        refine lv_iload_n hx hb dX10_speechOf_46 rfl (lv_at hl 2 rfl) ?_
        exact W.iret (v := y4_2) hx hb hr (fun tq ht hW => ⟨y4_2, rfl, trivial, ht⟩) (fun q h => by cases h) dX10_speechOf_47
      · have dc1 : y4_3.toInt < n.toInt := nleC rfl rfl c1
        refine lv_iload_n hx hb dX10_speechOf_9 rfl (lv_at hl 2 rfl) ?_
        refine lv_aload_n hx hb dX10_speechOf_10 rfl (lv_at hl 0 rfl) ?_
        refine lv_aload_n hx hb dX10_speechOf_11 rfl (lv_at hl 0 rfl) ?_
        refine va_get (D := (dC, dI)) (ci := 10) (v := .ref (b 31)) (C := RX10) (T := TX10) (N := 39) hx hb hts inX10 hown hK hP 0 rfl rfl 31 (by decide) lf71 (fun _ h9 => h9) rfl dX10_speechOf_12 ?_
        refine lv_aload_n hx hb dX10_speechOf_15 rfl (lv_at hl 0 rfl) ?_
        refine va_get (D := (dC, dI)) (ci := 10) (v := .ref (b 32)) (C := RX10) (T := TX10) (N := 39) hx hb hts inX10 hown hK hP 0 rfl rfl 32 (by decide) lf74 (fun _ h9 => h9) rfl dX10_speechOf_16 ?_
        refine lv_iload_n hx hb dX10_speechOf_19 rfl (lv_at hl 3 rfl) ?_
        refine lv_iconst (v := 1) hx hb dX10_speechOf_20 (by decide) ?_
        refine lv_isub hx hb dX10_speechOf_21 ?_
        have f2 : (y4_3 - 1).toInt = (y4_3.toInt) - (1) := subC rfl (show (1 : Int32).toInt = 1 from rfl) (by omega) (by omega)
        have w22 := of_at q3 (y := (y4_3 - 1)) (f2) (by omega) (by omega)
        have b3 : vp_in (y4_3 - 1) 8 := inC f2 (by omega) (by omega)
        refine va_iald hx hb hK hP 20 0 rfl rfl b3 dX10_speechOf_22 ?_
        have g4 : -1 ≤ (mord (y4_3 - 1).toNatClampNeg).toInt ∧ (mord (y4_3 - 1).toNatClampNeg).toInt ≤ 8 := rg_at r_mord b3
        have w23 := th_at q2 (y := (mord (y4_3 - 1).toNatClampNeg)) (rfl) (by omega) (by omega)
        have b5 : vp_in (mord (y4_3 - 1).toNatClampNeg) 8 := inC rfl (by omega) (by omega)
        refine va_iald hx hb hK hP 19 0 rfl rfl b5 dX10_speechOf_23 ?_
        have g6 : 0 ≤ (mthg (mord (y4_3 - 1).toNatClampNeg).toNatClampNeg).toInt ∧ (mthg (mord (y4_3 - 1).toNatClampNeg).toNatClampNeg).toInt ≤ 31 := rg_at r_mthg b5
        refine lv_aload_n hx hb dX10_speechOf_24 rfl (lv_at hl 0 rfl) ?_
        refine va_get (D := (dC, dI)) (ci := 10) (v := .ref (b 31)) (C := RX10) (T := TX10) (N := 39) hx hb hts inX10 hown hK hP 0 rfl rfl 31 (by decide) lf71 (fun _ h9 => h9) rfl dX10_speechOf_25 ?_
        refine lv_aload_n hx hb dX10_speechOf_28 rfl (lv_at hl 0 rfl) ?_
        refine va_get (D := (dC, dI)) (ci := 10) (v := .ref (b 32)) (C := RX10) (T := TX10) (N := 39) hx hb hts inX10 hown hK hP 0 rfl rfl 32 (by decide) lf74 (fun _ h9 => h9) rfl dX10_speechOf_29 ?_
        refine lv_iload_n hx hb dX10_speechOf_32 rfl (lv_at hl 3 rfl) ?_
        have w33 := of_at q3 (y := y4_3) (rfl) (by omega) (by omega)
        have b7 : vp_in y4_3 8 := inC rfl (by omega) (by omega)
        refine va_iald hx hb hK hP 20 0 rfl rfl b7 dX10_speechOf_33 ?_
        have g8 : -1 ≤ (mord y4_3.toNatClampNeg).toInt ∧ (mord y4_3.toNatClampNeg).toInt ≤ 8 := rg_at r_mord b7
        have w34 := th_at q2 (y := (mord y4_3.toNatClampNeg)) (rfl) (by omega) (by omega)
        have b9 : vp_in (mord y4_3.toNatClampNeg) 8 := inC rfl (by omega) (by omega)
        refine va_iald hx hb hK hP 19 0 rfl rfl b9 dX10_speechOf_34 ?_
        have g10 : 0 ≤ (mthg (mord y4_3.toNatClampNeg).toNatClampNeg).toInt ∧ (mthg (mord y4_3.toNatClampNeg).toNatClampNeg).toInt ≤ 31 := rg_at r_mthg b9
        refine rdV (As := [.int (mthg (mord (y4_3 - 1).toNatClampNeg).toNatClampNeg), .int (mthg (mord y4_3.toNatClampNeg).toNatClampNeg)]) (rest := [.int y4_2]) ⟨hx, hb, hml, hown, hts⟩ (k_X10_likeness l dC dI cI cZ cQ b mday mdoo mdA mdB mfar mmar mtel mgai mfal mtop mstr mgho mfai mpto mwal mahd mahf mcho mbes mbyt mtxt mpos mtka mtok mdig mnum mfau mrdm mrea mlin mlne mthg mord mbor mbsm mans mand manr mali (mthg (mord (y4_3 - 1).toNatClampNeg).toNatClampNeg) (mthg (mord y4_3.toNatClampNeg).toNatClampNeg) r_mday r_mdoo r_mdA r_mdB r_mmar r_mgai r_mfal r_mtop r_mstr r_mgho r_mfai r_mahd r_mahf r_mcho r_mbyt r_mpos r_mrdm r_mlin r_mthg r_mord r_mans (by omega) (by omega) (by omega) (by omega)) (cwV 2 hts gX10_speechOf_X10_likeness rfl rfl rfl (by decide +kernel) ⟨Nat.le_of_ble_eq_true rfl, Nat.le_of_ble_eq_true rfl⟩) hP hK hN [0, 1, 2, 3, 4, 5, 6, 7, 8, 9, 10, 11, 12, 13, 14, 15, 16, 17, 18, 19, 20, 21, 22, 23, 24, 25] rfl 0 10 rfl rfl rfl hl.1 rfl (Nat.le_of_ble_eq_true rfl) dX10_speechOf_35 ⟨Nat.le_of_ble_eq_true rfl, Nat.le_of_ble_eq_true rfl⟩ (fun r11 h12 => ?_)
        have h12 : (r11 = bc (mmar (mthg (mord (y4_3 - 1).toNatClampNeg).toNatClampNeg).toNatClampNeg &&& mmar (mthg (mord y4_3.toNatClampNeg).toNatClampNeg).toNatClampNeg)) := h12
        have h12_0 := h12
        refine lv_iadd hx hb dX10_speechOf_38 ?_
        refine lv_topi (fun x13 ex13 => ?_)
        have ix13 : x13.toInt = (y4_2 + r11).toInt := by rw [ex13]
        refine lv_istore_n (lv' := [(2, .int x13), (0, .ref (b 39)), (1, .int n), (3, .int y4_3)]) hx hb dX10_speechOf_39 rfl hl (by decide) rfl (fun ls hl => ?_)
        obtain ⟨z14, ez14⟩ : ∃ y : Int32, y = y4_3 + 1 := ⟨_, rfl⟩
        have iz14 : z14.toInt = y4_3.toInt + 1 := by rw [ez14]; exact addC rfl rfl (by omega) (by omega)
        refine lv_iinc (v := z14) (lv' := [(3, .int z14), (2, .int x13), (0, .ref (b 39)), (1, .int n)]) hx hb dX10_speechOf_40 hl (k := 3) rfl (by rw [ez14]; rfl) (by decide) rfl (fun ls hl => ?_)
        refine lv_goto (tgt := 4) hx hb dX10_speechOf_43 (by decide) ?_
        exact ih4 x13 z14 _ (by omega) (by omega) (by omega) (lv_sub hl [2, 3, 1, 0] rfl)
  have kc15 : (0 : Int32).toInt = 0 := rfl
  have kc16 : (1 : Int32).toInt = 1 := rfl
  exact L4 _ 0 1 _ (by omega) (by omega) (Nat.lt_succ_self _) (lv_sub hl [2, 3, 1, 0] rfl)
set_option maxHeartbeats 4000000 in
set_option maxRecDepth 100000 in
theorem k_X10_harmOf (l : Launch) (dC : Nat → ClassId) (dI : Nat → Nat → Nat) (cI cZ cQ : ClassId) (b : Nat → Nat) (mday : Int32) (mdoo : Int32) (mdA : Nat → Int32) (mdB : Nat → Int32) (mfar : Nat → Int32) (mmar : Nat → Int32) (mtel : Int32) (mgai : Int32) (mfal : Nat → Int32) (mtop : Nat → Int32) (mstr : Nat → Int32) (mgho : Nat → Int32) (mfai : Nat → Int32) (mpto : Nat → Int32) (mwal : Nat → Int32) (mahd : Nat → Int32) (mahf : Nat → Int32) (mcho : Nat → Int32) (mbes : Nat → Int32) (mbyt : Int32) (mtxt : Nat → Int32) (mpos : Int32) (mtka : Int32) (mtok : Int64) (mdig : Int32) (mnum : Int32) (mfau : Int32) (mrdm : Int32) (mrea : Nat → Int32) (mlin : Int32) (mlne : Nat → Int32) (mthg : Nat → Int32) (mord : Nat → Int32) (mbor : Nat → Int32) (mbsm : Int32) (mans : Nat → Int32) (mand : Nat → Int32) (manr : Nat → Int32) (mali : Nat → Int32) (n : Int32) (r_mday : 0 ≤ mday.toInt ∧ mday.toInt ≤ 400) (r_mdoo : 0 ≤ mdoo.toInt ∧ mdoo.toInt ≤ 14) (r_mdA : rg 14 (0) (7) mdA) (r_mdB : rg 14 (0) (7) mdB) (r_mmar : rg 24 (0) (255) mmar) (r_mgai : 0 ≤ mgai.toInt ∧ mgai.toInt ≤ 100) (r_mfal : rg 11 (0) (30) mfal) (r_mtop : rg 48 (-1) (23) mtop) (r_mstr : rg 48 (0) (100) mstr) (r_mgho : rg 48 (-1) (23) mgho) (r_mfai : rg 48 (0) (100) mfai) (r_mahd : rg 240 (0) (100) mahd) (r_mahf : rg 240 (0) (100) mahf) (r_mcho : rg 5 (-1) (9) mcho) (r_mbyt : 0 ≤ mbyt.toInt ∧ mbyt.toInt ≤ 160) (r_mpos : 0 ≤ mpos.toInt ∧ mpos.toInt ≤ 160) (r_mrdm : 0 ≤ mrdm.toInt ∧ mrdm.toInt ≤ 10) (r_mlin : 0 ≤ mlin.toInt ∧ mlin.toInt ≤ 10) (r_mthg : rg 8 (0) (31) mthg) (r_mord : rg 8 (-1) (8) mord) (r_mans : rg 4 (0) (12) mans) (q0 : 1 ≤ n.toInt) (q1 : n.toInt ≤ 8) (q2 : ∀ j : Nat, (j : Int) < n.toInt → (mthg j).toInt ≤ 23) (q3 : ∀ j : Nat, (j : Int) < n.toInt → 0 ≤ (mord j).toInt ∧ (mord j).toInt < n.toInt) : KR l yX10_harmOf wsX10_harmOf { frames := 1, cells := 0, slots := 0, locals := 25 } (dC, dI) (TY cI cZ cQ) (wMod cI cZ cQ b mday mdoo mdA mdB mfar mmar mtel mgai mfal mtop mstr mgho mfai mpto mwal mahd mahf mcho mbes mbyt mtxt mpos mtka mtok mdig mnum mfau mrdm mrea mlin mlne mthg mord mbor mbsm mans mand manr mali) [.ref (b 39), .int n] (fun r : Int32 => True) := by
  refine Met.ofW (cc := cX10_harmOf) (maxL := 5) (ret := (some .int)) (by decide) rfl ?_
  intro p e s m args below meth c s₁ B hml hv
  obtain ⟨rfl, hP, hK, hN⟩ := hv
  have hx := B.exec
  have hb := B.bytes
  have hr := B.returns
  have hts := atoms_spec (ws := wsX10_harmOf) B.pre
  have hown : s.vm.findClass RX10 = some m.cls := findClass_of_methodNamed B.named
  have hlocks := B.notSynchronized
  have lf71 := hts (.fieldLink RX10 71 "PalaceOfRoomsModel" "things" "[I") (List.mem_cons_of_mem _ (List.mem_append_left _ (List.mem_of_getElem? (i := 0) rfl)))
  have inX10 : ∀ w ∈ wsX100, w ∈ wsX10_harmOf := fun w h => List.mem_cons_of_mem _ (List.mem_append_right _ h)
  have lf74 := hts (.fieldLink RX10 74 "PalaceOfRoomsModel" "order" "[I") (List.mem_cons_of_mem _ (List.mem_append_left _ (List.mem_of_getElem? (i := 1) rfl)))
  have lf90 := hts (.fieldLink RX10 90 "PalaceOfRoomsModel" "alike" "[I") (List.mem_cons_of_mem _ (List.mem_append_left _ (List.mem_of_getElem? (i := 2) rfl)))
  have hl := lv_entry ([.ref (b 39), .int n]) (n := 5) (Nat.le_of_ble_eq_true rfl)
  rw [lg_entry_eq]
  generalize (lg_sl ([.ref (b 39), .int n]) ++ List.replicate (5 - (lg_sl ([.ref (b 39), .int n])).length) Slot.unset).toArray = ls at hl ⊢
  have hl : lv_has ls 5 [(0, .ref (b 39)), (1, .int n)] := hl
  refine lv_iconst (v := 0) hx hb dX10_harmOf_0 (by decide) ?_
  refine lv_istore_n (lv' := [(2, .int 0), (0, .ref (b 39)), (1, .int n)]) hx hb dX10_harmOf_1 rfl hl (by decide) rfl (fun ls hl => ?_)
  refine lv_iconst (v := 0) hx hb dX10_harmOf_2 (by decide) ?_
  refine lv_istore_n (lv' := [(3, .int 0), (2, .int 0), (0, .ref (b 39)), (1, .int n)]) hx hb dX10_harmOf_3 rfl hl (by decide) rfl (fun ls hl => ?_)
  have L4 : ∀ (nn : Nat) (y4_2 : Int32) (y4_3 : Int32) (ls : Array Slot), (0 ≤ (y4_3.toInt)) → ((y4_3.toInt) ≤ 8) → (8 - (y4_3.toInt)).toNat < nn → lv_has ls 5 [(0, .ref (b 39)), (1, .int n), (2, .int y4_2), (3, .int y4_3)] → W p l e (headSpec wsX10_harmOf { frames := 1, cells := 0, slots := 0, locals := 25 }).room s m ([.ref (b 39), .int n] : List Value).toArray below meth c s.heap [] 0 0 (MQ below (QR (fun r : Int32 => True)) ([.ref (b 39), .int n] : List Value).toArray s 0 0 (fun _ => False)) (F0 m 4 ls []) := by
    intro nn
    induction nn with
    | zero =>
      intro y4_2 y4_3 ls i4_0 i4_1 hm4
      exact absurd hm4 (Nat.not_lt_zero _)
    | succ nn ih4 =>
      intro y4_2 y4_3 ls i4_0 i4_1 hm4 hl
      refine lv_iload_n hx hb dX10_harmOf_4 rfl (lv_at hl 3 rfl) ?_
      refine lv_iload_n hx hb dX10_harmOf_5 rfl (lv_at hl 1 rfl) ?_
      refine lv_icmp_ge (tgt := 73) hx hb dX10_harmOf_6 (by decide) (fun c1 => ?_) (fun c1 => ?_)
      · have dc1 : n.toInt ≤ y4_3.toInt := leC rfl rfl c1
        refine lv_iload_n hx hb dX10_harmOf_73 rfl (lv_at hl 2 rfl) ?_
        exact W.iret (v := y4_2) hx hb hr (fun tq ht hW => ⟨y4_2, rfl, trivial, ht⟩) (fun q h => by cases h) dX10_harmOf_74
      · have dc1 : y4_3.toInt < n.toInt := nleC rfl rfl c1
        refine lv_iconst (v := 0) hx hb dX10_harmOf_9 (by decide) ?_
        refine lv_istore (lv' := [(4, .int 0), (0, .ref (b 39)), (1, .int n), (2, .int y4_2), (3, .int y4_3)]) hx hb dX10_harmOf_10 hl (by decide) rfl (fun ls hl => ?_)
        have L12 : ∀ (nn : Nat) (y12_2 : Int32) (y12_4 : Int32) (ls : Array Slot), (0 ≤ (y12_4.toInt)) → ((y12_4.toInt) ≤ 7) → (7 - (y12_4.toInt)).toNat < nn → lv_has ls 5 [(0, .ref (b 39)), (1, .int n), (2, .int y12_2), (3, .int y4_3), (4, .int y12_4)] → W p l e (headSpec wsX10_harmOf { frames := 1, cells := 0, slots := 0, locals := 25 }).room s m ([.ref (b 39), .int n] : List Value).toArray below meth c s.heap [] 0 0 (MQ below (QR (fun r : Int32 => True)) ([.ref (b 39), .int n] : List Value).toArray s 0 0 (fun _ => False)) (F0 m 12 ls []) := by
          intro nn
          induction nn with
          | zero =>
            intro y12_2 y12_4 ls i12_0 i12_1 hm12
            exact absurd hm12 (Nat.not_lt_zero _)
          | succ nn ih12 =>
            intro y12_2 y12_4 ls i12_0 i12_1 hm12 hl
            refine lv_iload hx hb dX10_harmOf_12 (lv_at hl 4 rfl) ?_
            refine lv_iload_n hx hb dX10_harmOf_14 rfl (lv_at hl 3 rfl) ?_
            refine lv_icmp_ge (tgt := 67) hx hb dX10_harmOf_15 (by decide) (fun c2 => ?_) (fun c2 => ?_)
            · have dc2 : y4_3.toInt ≤ y12_4.toInt := leC rfl rfl c2
              obtain ⟨z3, ez3⟩ : ∃ y : Int32, y = y4_3 + 1 := ⟨_, rfl⟩
              have iz3 : z3.toInt = y4_3.toInt + 1 := by rw [ez3]; exact addC rfl rfl (by omega) (by omega)
              refine lv_iinc (v := z3) (lv' := [(3, .int z3), (0, .ref (b 39)), (1, .int n), (2, .int y12_2), (4, .int y12_4)]) hx hb dX10_harmOf_67 hl (k := 3) rfl (by rw [ez3]; rfl) (by decide) rfl (fun ls hl => ?_)
              refine lv_goto (tgt := 4) hx hb dX10_harmOf_70 (by decide) ?_
              exact ih4 y12_2 z3 _ (by omega) (by omega) (by omega) (lv_sub hl [1, 2, 3, 0] rfl)
            · have dc2 : y12_4.toInt < y4_3.toInt := nleC rfl rfl c2
              refine lv_iload_n hx hb dX10_harmOf_18 rfl (lv_at hl 2 rfl) ?_
              refine lv_aload_n hx hb dX10_harmOf_19 rfl (lv_at hl 0 rfl) ?_
              refine lv_aload_n hx hb dX10_harmOf_20 rfl (lv_at hl 0 rfl) ?_
              refine va_get (D := (dC, dI)) (ci := 10) (v := .ref (b 31)) (C := RX10) (T := TX10) (N := 39) hx hb hts inX10 hown hK hP 0 rfl rfl 31 (by decide) lf71 (fun _ h9 => h9) rfl dX10_harmOf_21 ?_
              refine lv_aload_n hx hb dX10_harmOf_24 rfl (lv_at hl 0 rfl) ?_
              refine va_get (D := (dC, dI)) (ci := 10) (v := .ref (b 32)) (C := RX10) (T := TX10) (N := 39) hx hb hts inX10 hown hK hP 0 rfl rfl 32 (by decide) lf74 (fun _ h9 => h9) rfl dX10_harmOf_25 ?_
              refine lv_iload_n hx hb dX10_harmOf_28 rfl (lv_at hl 3 rfl) ?_
              have w29 := of_at q3 (y := y4_3) (rfl) (by omega) (by omega)
              have b4 : vp_in y4_3 8 := inC rfl (by omega) (by omega)
              refine va_iald hx hb hK hP 20 0 rfl rfl b4 dX10_harmOf_29 ?_
              have g5 : -1 ≤ (mord y4_3.toNatClampNeg).toInt ∧ (mord y4_3.toNatClampNeg).toInt ≤ 8 := rg_at r_mord b4
              have w30 := th_at q2 (y := (mord y4_3.toNatClampNeg)) (rfl) (by omega) (by omega)
              have b6 : vp_in (mord y4_3.toNatClampNeg) 8 := inC rfl (by omega) (by omega)
              refine va_iald hx hb hK hP 19 0 rfl rfl b6 dX10_harmOf_30 ?_
              have g7 : 0 ≤ (mthg (mord y4_3.toNatClampNeg).toNatClampNeg).toInt ∧ (mthg (mord y4_3.toNatClampNeg).toNatClampNeg).toInt ≤ 31 := rg_at r_mthg b6
              refine lv_aload_n hx hb dX10_harmOf_31 rfl (lv_at hl 0 rfl) ?_
              refine va_get (D := (dC, dI)) (ci := 10) (v := .ref (b 31)) (C := RX10) (T := TX10) (N := 39) hx hb hts inX10 hown hK hP 0 rfl rfl 31 (by decide) lf71 (fun _ h9 => h9) rfl dX10_harmOf_32 ?_
              refine lv_aload_n hx hb dX10_harmOf_35 rfl (lv_at hl 0 rfl) ?_
              refine va_get (D := (dC, dI)) (ci := 10) (v := .ref (b 32)) (C := RX10) (T := TX10) (N := 39) hx hb hts inX10 hown hK hP 0 rfl rfl 32 (by decide) lf74 (fun _ h9 => h9) rfl dX10_harmOf_36 ?_
              refine lv_iload hx hb dX10_harmOf_39 (lv_at hl 4 rfl) ?_
              have w41 := of_at q3 (y := y12_4) (rfl) (by omega) (by omega)
              have b8 : vp_in y12_4 8 := inC rfl (by omega) (by omega)
              refine va_iald hx hb hK hP 20 0 rfl rfl b8 dX10_harmOf_41 ?_
              have g9 : -1 ≤ (mord y12_4.toNatClampNeg).toInt ∧ (mord y12_4.toNatClampNeg).toInt ≤ 8 := rg_at r_mord b8
              have w42 := th_at q2 (y := (mord y12_4.toNatClampNeg)) (rfl) (by omega) (by omega)
              have b10 : vp_in (mord y12_4.toNatClampNeg) 8 := inC rfl (by omega) (by omega)
              refine va_iald hx hb hK hP 19 0 rfl rfl b10 dX10_harmOf_42 ?_
              have g11 : 0 ≤ (mthg (mord y12_4.toNatClampNeg).toNatClampNeg).toInt ∧ (mthg (mord y12_4.toNatClampNeg).toNatClampNeg).toInt ≤ 31 := rg_at r_mthg b10
              refine rdV (As := [.int (mthg (mord y4_3.toNatClampNeg).toNatClampNeg), .int (mthg (mord y12_4.toNatClampNeg).toNatClampNeg)]) (rest := [.int y12_2]) ⟨hx, hb, hml, hown, hts⟩ (k_X10_likeness l dC dI cI cZ cQ b mday mdoo mdA mdB mfar mmar mtel mgai mfal mtop mstr mgho mfai mpto mwal mahd mahf mcho mbes mbyt mtxt mpos mtka mtok mdig mnum mfau mrdm mrea mlin mlne mthg mord mbor mbsm mans mand manr mali (mthg (mord y4_3.toNatClampNeg).toNatClampNeg) (mthg (mord y12_4.toNatClampNeg).toNatClampNeg) r_mday r_mdoo r_mdA r_mdB r_mmar r_mgai r_mfal r_mtop r_mstr r_mgho r_mfai r_mahd r_mahf r_mcho r_mbyt r_mpos r_mrdm r_mlin r_mthg r_mord r_mans (by omega) (by omega) (by omega) (by omega)) (cwV 2 hts gX10_harmOf_X10_likeness rfl rfl rfl (by decide +kernel) ⟨Nat.le_of_ble_eq_true rfl, Nat.le_of_ble_eq_true rfl⟩) hP hK hN [0, 1, 2, 3, 4, 5, 6, 7, 8, 9, 10, 11, 12, 13, 14, 15, 16, 17, 18, 19, 20, 21, 22, 23, 24, 25] rfl 0 10 rfl rfl rfl hl.1 rfl (Nat.le_of_ble_eq_true rfl) dX10_harmOf_43 ⟨Nat.le_of_ble_eq_true rfl, Nat.le_of_ble_eq_true rfl⟩ (fun r12 h13 => ?_)
              have h13 : (r12 = bc (mmar (mthg (mord y4_3.toNatClampNeg).toNatClampNeg).toNatClampNeg &&& mmar (mthg (mord y12_4.toNatClampNeg).toNatClampNeg).toNatClampNeg)) := h13
              have h13_0 := h13
              refine lv_aload_n hx hb dX10_harmOf_46 rfl (lv_at hl 0 rfl) ?_
              refine va_get (D := (dC, dI)) (ci := 10) (v := .ref (b 38)) (C := RX10) (T := TX10) (N := 39) hx hb hts inX10 hown hK hP 0 rfl rfl 38 (by decide) lf90 (fun _ h9 => h9) rfl dX10_harmOf_47 ?_
              refine lv_bipush (v := 10) hx hb dX10_harmOf_50 (by decide) ?_
              refine lv_iload_n hx hb dX10_harmOf_52 rfl (lv_at hl 3 rfl) ?_
              refine lv_imul hx hb dX10_harmOf_53 ?_
              have f14 : (10 * y4_3).toInt = (10) * (y4_3.toInt) := mulC (show (10 : Int32).toInt = 10 from rfl) rfl (by omega) (by omega)
              refine lv_iload hx hb dX10_harmOf_54 (lv_at hl 4 rfl) ?_
              refine lv_iadd hx hb dX10_harmOf_56 ?_
              have f15 : ((10 * y4_3) + y12_4).toInt = ((10) * (y4_3.toInt)) + (y12_4.toInt) := addC f14 rfl (by omega) (by omega)
              have b16 : vp_in ((10 * y4_3) + y12_4) 100 := inC f15 (by omega) (by omega)
              refine va_iald hx hb hK hP 25 0 rfl rfl b16 dX10_harmOf_57 ?_
              refine lv_imul hx hb dX10_harmOf_58 ?_
              refine lv_iadd hx hb dX10_harmOf_59 ?_
              refine lv_topi (fun x17 ex17 => ?_)
              have ix17 : x17.toInt = (y12_2 + (r12 * (mali ((10 * y4_3) + y12_4).toNatClampNeg))).toInt := by rw [ex17]
              refine lv_istore_n (lv' := [(2, .int x17), (0, .ref (b 39)), (1, .int n), (3, .int y4_3), (4, .int y12_4)]) hx hb dX10_harmOf_60 rfl hl (by decide) rfl (fun ls hl => ?_)
              obtain ⟨z18, ez18⟩ : ∃ y : Int32, y = y12_4 + 1 := ⟨_, rfl⟩
              have iz18 : z18.toInt = y12_4.toInt + 1 := by rw [ez18]; exact addC rfl rfl (by omega) (by omega)
              refine lv_iinc (v := z18) (lv' := [(4, .int z18), (2, .int x17), (0, .ref (b 39)), (1, .int n), (3, .int y4_3)]) hx hb dX10_harmOf_61 hl (k := 4) rfl (by rw [ez18]; rfl) (by decide) rfl (fun ls hl => ?_)
              refine lv_goto (tgt := 12) hx hb dX10_harmOf_64 (by decide) ?_
              exact ih12 x17 z18 _ (by omega) (by omega) (by omega) (lv_sub hl [2, 3, 1, 4, 0] rfl)
        have kc19 : (0 : Int32).toInt = 0 := rfl
        exact L12 _ y4_2 0 _ (by omega) (by omega) (Nat.lt_succ_self _) (lv_sub hl [1, 2, 3, 4, 0] rfl)
  have kc20 : (0 : Int32).toInt = 0 := rfl
  exact L4 _ 0 0 _ (by omega) (by omega) (Nat.lt_succ_self _) (lv_sub hl [2, 3, 1, 0] rfl)
set_option maxHeartbeats 4000000 in
set_option maxRecDepth 100000 in
theorem k_X10_findOrder (l : Launch) (dC : Nat → ClassId) (dI : Nat → Nat → Nat) (cI cZ cQ : ClassId) (b : Nat → Nat) (mday : Int32) (mdoo : Int32) (mdA : Nat → Int32) (mdB : Nat → Int32) (mfar : Nat → Int32) (mmar : Nat → Int32) (mtel : Int32) (mgai : Int32) (mfal : Nat → Int32) (mtop : Nat → Int32) (mstr : Nat → Int32) (mgho : Nat → Int32) (mfai : Nat → Int32) (mpto : Nat → Int32) (mwal : Nat → Int32) (mahd : Nat → Int32) (mahf : Nat → Int32) (mcho : Nat → Int32) (mbes : Nat → Int32) (mbyt : Int32) (mtxt : Nat → Int32) (mpos : Int32) (mtka : Int32) (mtok : Int64) (mdig : Int32) (mnum : Int32) (mfau : Int32) (mrdm : Int32) (mrea : Nat → Int32) (mlin : Int32) (mlne : Nat → Int32) (mthg : Nat → Int32) (mord : Nat → Int32) (mbor : Nat → Int32) (mbsm : Int32) (mans : Nat → Int32) (mand : Nat → Int32) (manr : Nat → Int32) (mali : Nat → Int32) (sz : Nat) (n : Int32) (sp : Int32) (r_mday : 0 ≤ mday.toInt ∧ mday.toInt ≤ 400) (r_mdoo : 0 ≤ mdoo.toInt ∧ mdoo.toInt ≤ 14) (r_mdA : rg 14 (0) (7) mdA) (r_mdB : rg 14 (0) (7) mdB) (r_mmar : rg 24 (0) (255) mmar) (r_mgai : 0 ≤ mgai.toInt ∧ mgai.toInt ≤ 100) (r_mfal : rg 11 (0) (30) mfal) (r_mtop : rg 48 (-1) (23) mtop) (r_mstr : rg 48 (0) (100) mstr) (r_mgho : rg 48 (-1) (23) mgho) (r_mfai : rg 48 (0) (100) mfai) (r_mahd : rg 240 (0) (100) mahd) (r_mahf : rg 240 (0) (100) mahf) (r_mcho : rg 5 (-1) (9) mcho) (r_mbyt : 0 ≤ mbyt.toInt ∧ mbyt.toInt ≤ 160) (r_mpos : 0 ≤ mpos.toInt ∧ mpos.toInt ≤ 160) (r_mrdm : 0 ≤ mrdm.toInt ∧ mrdm.toInt ≤ 10) (r_mlin : 0 ≤ mlin.toInt ∧ mlin.toInt ≤ 10) (r_mthg : rg 8 (0) (31) mthg) (r_mord : rg 8 (-1) (8) mord) (r_mans : rg 4 (0) (12) mans) (q0 : 1 ≤ n.toInt) (q1 : n.toInt ≤ 8) (q2 : ∀ j : Nat, (j : Int) < n.toInt → (mthg j).toInt ≤ 23) : KV l yX10_findOrder wsX10_findOrder { frames := 2, cells := 0, slots := 0, locals := 49 } (dC, dI) (TY cI cZ cQ) (wMod cI cZ cQ b mday mdoo mdA mdB mfar mmar mtel mgai mfal mtop mstr mgho mfai mpto mwal mahd mahf mcho mbes mbyt mtxt mpos mtka mtok mdig mnum mfau mrdm mrea mlin mlne mthg mord mbor mbsm mans mand manr mali) [.ref (b 39), .int n, .int sp] sz 0 0 (fun (u : US) => (rg 8 (-1) (8) (u.1 1))) (fun u : US => (wMod cI cZ cQ b mday mdoo mdA mdB mfar mmar mtel mgai mfal mtop mstr mgho mfai mpto mwal mahd mahf mcho mbes mbyt mtxt mpos mtka mtok mdig mnum mfau mrdm mrea mlin mlne mthg (u.1 1) (u.1 2) (u.1 0 0) mans mand manr mali)) := by
  refine Met.ofW (cc := cX10_findOrder) (maxL := 7) (ret := none) (by decide) rfl ?_
  intro p e s m args below meth c s₁ B hml hv
  obtain ⟨rfl, hsz, hP, hK, hD0, hN⟩ := hv
  have hx := B.exec
  have hb := B.bytes
  have hr := B.returns
  have hts := atoms_spec (ws := wsX10_findOrder) B.pre
  have hown : s.vm.findClass RX10 = some m.cls := findClass_of_methodNamed B.named
  have hlocks := B.notSynchronized
  have lf225 := hts (.fieldLink RX10 225 "PalaceOfRoomsModel" "bestSum" "I") (List.mem_cons_of_mem _ (List.mem_append_left _ (List.mem_of_getElem? (i := 0) rfl)))
  have inX10 : ∀ w ∈ wsX100, w ∈ wsX10_findOrder := fun w h => List.mem_cons_of_mem _ (List.mem_append_right _ h)
  have lf74 := hts (.fieldLink RX10 74 "PalaceOfRoomsModel" "order" "[I") (List.mem_cons_of_mem _ (List.mem_append_left _ (List.mem_of_getElem? (i := 1) rfl)))
  have lf77 := hts (.fieldLink RX10 77 "PalaceOfRoomsModel" "bestOrder" "[I") (List.mem_cons_of_mem _ (List.mem_append_left _ (List.mem_of_getElem? (i := 2) rfl)))
  have lf71 := hts (.fieldLink RX10 71 "PalaceOfRoomsModel" "things" "[I") (List.mem_cons_of_mem _ (List.mem_append_left _ (List.mem_of_getElem? (i := 3) rfl)))
  subst hsz
  have hD := hD0.self (sz := s.heap.size)
  generalize hAe : va_A (wMod cI cZ cQ b mday mdoo mdA mdB mfar mmar mtel mgai mfal mtop mstr mgho mfai mpto mwal mahd mahf mcho mbes mbyt mtxt mpos mtka mtok mdig mnum mfau mrdm mrea mlin mlne mthg mord mbor mbsm mans mand manr mali) s.heap.size = A at hD ⊢
  have hA : ∀ q : Nat, s.heap.size ≤ q → A q := fun q h => by rw [← hAe]; exact Or.inr h
  have hS : va_S A s.heap s.heap [] := va_S.rf
  have hl := lv_entry ([.ref (b 39), .int n, .int sp]) (n := 7) (Nat.le_of_ble_eq_true rfl)
  rw [lg_entry_eq]
  generalize (lg_sl ([.ref (b 39), .int n, .int sp]) ++ List.replicate (7 - (lg_sl ([.ref (b 39), .int n, .int sp])).length) Slot.unset).toArray = ls at hl ⊢
  have hl : lv_has ls 7 [(0, .ref (b 39)), (1, .int n), (2, .int sp)] := hl
  refine lv_aload_n hx hb dX10_findOrder_0 rfl (lv_at hl 0 rfl) ?_
  refine lv_iconst (v := (-1)) hx hb dX10_findOrder_1 (by decide) ?_
  refine va_put (D := (dC, dI)) (ci := 10) (v := .int (-1)) (ty := .int) (C := RX10) (T := TX10) (N := 39) hx hb hts inX10 tyX10 tyX10_ok nmX10 hown hK hP hD hS 0 rfl rfl 34 (by decide) lf225 (fun _ h9 => h9) rfl (by decide +kernel) rfl rfl (Nat.le_of_ble_eq_true rfl) dX10_findOrder_2 (fun H locs hP hD hS => ?_)
  have hP : va_P (dC, dI) vwCl (wMod cI cZ cQ b mday mdoo mdA mdB mfar mmar mtel mgai mfal mtop mstr mgho mfai mpto mwal mahd mahf mcho mbes mbyt mtxt mpos mtka mtok mdig mnum mfau mrdm mrea mlin mlne mthg mord mbor (-1) mans mand manr mali) H := hP
  have hD : va_D A (wMod cI cZ cQ b mday mdoo mdA mdB mfar mmar mtel mgai mfal mtop mstr mgho mfai mpto mwal mahd mahf mcho mbes mbyt mtxt mpos mtka mtok mdig mnum mfau mrdm mrea mlin mlne mthg mord mbor (-1) mans mand manr mali) := hD
  refine lv_iconst (v := 0) hx hb dX10_findOrder_5 (by decide) ?_
  refine lv_istore_n (lv' := [(3, .int 0), (0, .ref (b 39)), (1, .int n), (2, .int sp)]) hx hb dX10_findOrder_6 rfl hl (by decide) rfl (fun ls hl => ?_)
  refine lv_aload_n hx hb dX10_findOrder_7 rfl (lv_at hl 1 rfl) ?_
  refine va_get (D := (dC, dI)) (ci := 10) (v := .ref (b 32)) (C := RX10) (T := TX10) (N := 39) hx hb hts inX10 hown hK hP 0 rfl rfl 32 (by decide) lf74 (fun _ h9 => h9) rfl dX10_findOrder_8 ?_
  refine lv_iconst (v := 0) hx hb dX10_findOrder_11 (by decide) ?_
  refine lv_iconst (v := (-1)) hx hb dX10_findOrder_12 (by decide) ?_
  have b1 : vp_in 0 8 := (show ¬ _ from by decide)
  have g2 : rg 8 (-1) (8) (upd mord (0 : Int32).toNatClampNeg (-1)) := rg_upd r_mord (show ((-1) : Int32).toInt = (-1) from rfl) (by omega) (by omega)
  refine va_iast hx hb hK hP hD hS 20 0 rfl rfl b1 dX10_findOrder_13 (fun H locs hP hD hS => ?_)
  obtain ⟨mord_u3, emord_u3⟩ : ∃ f : Nat → Int32, f = upd mord (0 : Int32).toNatClampNeg (-1) := ⟨_, rfl⟩
  have rmord_u3 : rg 8 (-1) (8) mord_u3 := by rw [emord_u3]; exact g2
  have hP : va_P (dC, dI) vwCl (wMod cI cZ cQ b mday mdoo mdA mdB mfar mmar mtel mgai mfal mtop mstr mgho mfai mpto mwal mahd mahf mcho mbes mbyt mtxt mpos mtka mtok mdig mnum mfau mrdm mrea mlin mlne mthg mord_u3 mbor (-1) mans mand manr mali) H := by rw [emord_u3]; exact hP
  have hD : va_D A (wMod cI cZ cQ b mday mdoo mdA mdB mfar mmar mtel mgai mfal mtop mstr mgho mfai mpto mwal mahd mahf mcho mbes mbyt mtxt mpos mtka mtok mdig mnum mfau mrdm mrea mlin mlne mthg mord_u3 mbor (-1) mans mand manr mali) := by rw [emord_u3]; exact hD
  have L14 : ∀ (nn : Nat) (y14_3 : Int32) (mbsm_14 : Int32) (mord_14 : Nat → Int32) (mbor_14 : Nat → Int32) (H : Heap) (locs : List Loc) (ls : Array Slot), (rg 8 (-1) (8) mord_14) → (-1 ≤ (y14_3.toInt)) → ((y14_3.toInt) ≤ 7) → ((y14_3.toInt) < n.toInt) → (ordOK n.toInt (y14_3.toInt) mord_14) → omM n.toInt 10 8 mord_14 ((y14_3.toInt) + 1).toNat < nn → va_P (dC, dI) vwCl (wMod cI cZ cQ b mday mdoo mdA mdB mfar mmar mtel mgai mfal mtop mstr mgho mfai mpto mwal mahd mahf mcho mbes mbyt mtxt mpos mtka mtok mdig mnum mfau mrdm mrea mlin mlne mthg mord_14 mbor_14 mbsm_14 mans mand manr mali) H → va_D A (wMod cI cZ cQ b mday mdoo mdA mdB mfar mmar mtel mgai mfal mtop mstr mgho mfai mpto mwal mahd mahf mcho mbes mbyt mtxt mpos mtka mtok mdig mnum mfau mrdm mrea mlin mlne mthg mord_14 mbor_14 mbsm_14 mans mand manr mali) → va_S A s.heap H locs → lv_has ls 7 [(0, .ref (b 39)), (1, .int n), (2, .int sp), (3, .int y14_3)] → W p l e (headSpec wsX10_findOrder { frames := 2, cells := 0, slots := 0, locals := 49 }).room s m ([.ref (b 39), .int n, .int sp] : List Value).toArray below meth c H locs 0 0 (MQ below (va_Qv (fun (u : US) => (rg 8 (-1) (8) (u.1 1))) (Bw (dC, dI) A (fun u : US => (wMod cI cZ cQ b mday mdoo mdA mdB mfar mmar mtel mgai mfal mtop mstr mgho mfai mpto mwal mahd mahf mcho mbes mbyt mtxt mpos mtka mtok mdig mnum mfau mrdm mrea mlin mlne mthg (u.1 1) (u.1 2) (u.1 0 0) mans mand manr mali))) A) ([.ref (b 39), .int n, .int sp] : List Value).toArray s 0 0 A) (F0 m 14 ls []) := by
    intro nn
    induction nn with
    | zero =>
      intro y14_3 mbsm_14 mord_14 mbor_14 H locs ls r_mord_14 i14_0 i14_1 i14_2 i14_3 hm14
      exact absurd hm14 (Nat.not_lt_zero _)
    | succ nn ih14 =>
      intro y14_3 mbsm_14 mord_14 mbor_14 H locs ls r_mord_14 i14_0 i14_1 i14_2 i14_3 hm14 hP hD hS hl
      refine lv_iload_n hx hb dX10_findOrder_14 rfl (lv_at hl 3 rfl) ?_
      refine lv_if_lt (tgt := 199) hx hb dX10_findOrder_15 (by decide) (fun c4 => ?_) (fun c4 => ?_)
      · have dc4 : y14_3.toInt < 0 := ltC rfl (show (0 : Int32).toInt = 0 from rfl) c4
        exact W.vret hx hb hr (fun tq ht hW => ⟨⟨(uS [(fun _ => mbsm_14), mord_14, mbor_14] 0 (fun _ => 0)), rfl, r_mord_14, by rw [ht]; exact hP, hD⟩, hS.F ht⟩) hS.2.2 dX10_findOrder_199
      · have dc4 : 0 ≤ y14_3.toInt := nltC rfl (show (0 : Int32).toInt = 0 from rfl) c4
        have wo := ord_at i14_3 (rfl) (by omega)
        refine lv_aload_n hx hb dX10_findOrder_18 rfl (lv_at hl 0 rfl) ?_
        refine va_get (D := (dC, dI)) (ci := 10) (v := .ref (b 32)) (C := RX10) (T := TX10) (N := 39) hx hb hts inX10 hown hK hP 0 rfl rfl 32 (by decide) lf74 (fun _ h9 => h9) rfl dX10_findOrder_19 ?_
        refine lv_iload_n hx hb dX10_findOrder_22 rfl (lv_at hl 3 rfl) ?_
        refine lv_dup2_11 hx hb dX10_findOrder_23 rfl rfl ?_
        have b5 : vp_in y14_3 8 := inC rfl (by omega) (by omega)
        refine va_iald hx hb hK hP 20 0 rfl rfl b5 dX10_findOrder_24 ?_
        have g6 : -1 ≤ (mord_14 y14_3.toNatClampNeg).toInt ∧ (mord_14 y14_3.toNatClampNeg).toInt ≤ 8 := rg_at r_mord_14 b5
        refine lv_iconst (v := 1) hx hb dX10_findOrder_25 (by decide) ?_
        refine lv_iadd hx hb dX10_findOrder_26 ?_
        have f7 : ((mord_14 y14_3.toNatClampNeg) + 1).toInt = ((mord_14 y14_3.toNatClampNeg).toInt) + (1) := addC rfl (show (1 : Int32).toInt = 1 from rfl) (by omega) (by omega)
        refine lv_topi (fun x8 ex8 => ?_)
        have ix8 : x8.toInt = ((mord_14 y14_3.toNatClampNeg).toInt) + (1) := by rw [ex8]; exact f7
        have b9 : vp_in y14_3 8 := inC rfl (by omega) (by omega)
        have g10 : rg 8 (-1) (8) (upd mord_14 y14_3.toNatClampNeg x8) := rg_upd r_mord_14 rfl (by omega) (by omega)
        refine va_iast hx hb hK hP hD hS 20 0 rfl rfl b9 dX10_findOrder_27 (fun H locs hP hD hS => ?_)
        obtain ⟨mord_u11, emord_u11⟩ : ∃ f : Nat → Int32, f = upd mord_14 y14_3.toNatClampNeg x8 := ⟨_, rfl⟩
        have rmord_u11 : rg 8 (-1) (8) mord_u11 := by rw [emord_u11]; exact g10
        have hP : va_P (dC, dI) vwCl (wMod cI cZ cQ b mday mdoo mdA mdB mfar mmar mtel mgai mfal mtop mstr mgho mfai mpto mwal mahd mahf mcho mbes mbyt mtxt mpos mtka mtok mdig mnum mfau mrdm mrea mlin mlne mthg mord_u11 mbor_14 mbsm_14 mans mand manr mali) H := by rw [emord_u11]; exact hP
        have hD : va_D A (wMod cI cZ cQ b mday mdoo mdA mdB mfar mmar mtel mgai mfal mtop mstr mgho mfai mpto mwal mahd mahf mcho mbes mbyt mtxt mpos mtka mtok mdig mnum mfau mrdm mrea mlin mlne mthg mord_u11 mbor_14 mbsm_14 mans mand manr mali) := by rw [emord_u11]; exact hD
        refine lv_iconst (v := 1) hx hb dX10_findOrder_28 (by decide) ?_
        refine lv_istore (lv' := [(4, .int 1), (0, .ref (b 39)), (1, .int n), (2, .int sp), (3, .int y14_3)]) hx hb dX10_findOrder_29 hl (by decide) rfl (fun ls hl => ?_)
        refine lv_iconst (v := 0) hx hb dX10_findOrder_31 (by decide) ?_
        refine lv_istore (lv' := [(5, .int 0), (4, .int 1), (0, .ref (b 39)), (1, .int n), (2, .int sp), (3, .int y14_3)]) hx hb dX10_findOrder_32 hl (by decide) rfl (fun ls hl => ?_)
        have L34 : ∀ (nn : Nat) (y34_4 : Int32) (y34_5 : Int32) (H : Heap) (locs : List Loc) (ls : Array Slot), (0 ≤ (y34_5.toInt)) → ((y34_5.toInt) ≤ 7) → (7 - (y34_5.toInt)).toNat < nn → va_P (dC, dI) vwCl (wMod cI cZ cQ b mday mdoo mdA mdB mfar mmar mtel mgai mfal mtop mstr mgho mfai mpto mwal mahd mahf mcho mbes mbyt mtxt mpos mtka mtok mdig mnum mfau mrdm mrea mlin mlne mthg mord_u11 mbor_14 mbsm_14 mans mand manr mali) H → va_D A (wMod cI cZ cQ b mday mdoo mdA mdB mfar mmar mtel mgai mfal mtop mstr mgho mfai mpto mwal mahd mahf mcho mbes mbyt mtxt mpos mtka mtok mdig mnum mfau mrdm mrea mlin mlne mthg mord_u11 mbor_14 mbsm_14 mans mand manr mali) → va_S A s.heap H locs → lv_has ls 7 [(0, .ref (b 39)), (1, .int n), (2, .int sp), (3, .int y14_3), (4, .int y34_4), (5, .int y34_5)] → W p l e (headSpec wsX10_findOrder { frames := 2, cells := 0, slots := 0, locals := 49 }).room s m ([.ref (b 39), .int n, .int sp] : List Value).toArray below meth c H locs 0 0 (MQ below (va_Qv (fun (u : US) => (rg 8 (-1) (8) (u.1 1))) (Bw (dC, dI) A (fun u : US => (wMod cI cZ cQ b mday mdoo mdA mdB mfar mmar mtel mgai mfal mtop mstr mgho mfai mpto mwal mahd mahf mcho mbes mbyt mtxt mpos mtka mtok mdig mnum mfau mrdm mrea mlin mlne mthg (u.1 1) (u.1 2) (u.1 0 0) mans mand manr mali))) A) ([.ref (b 39), .int n, .int sp] : List Value).toArray s 0 0 A) (F0 m 34 ls []) := by
          intro nn
          induction nn with
          | zero =>
            intro y34_4 y34_5 H locs ls i34_0 i34_1 hm34
            exact absurd hm34 (Nat.not_lt_zero _)
          | succ nn ih34 =>
            intro y34_4 y34_5 H locs ls i34_0 i34_1 hm34 hP hD hS hl
            refine lv_iload hx hb dX10_findOrder_34 (lv_at hl 5 rfl) ?_
            refine lv_iload_n hx hb dX10_findOrder_36 rfl (lv_at hl 3 rfl) ?_
            refine lv_icmp_ge (tgt := 74) hx hb dX10_findOrder_37 (by decide) (fun c12 => ?_) (fun c12 => ?_)
            · have dc12 : y14_3.toInt ≤ y34_5.toInt := leC rfl rfl c12
              refine lv_aload_n hx hb dX10_findOrder_74 rfl (lv_at hl 0 rfl) ?_
              refine va_get (D := (dC, dI)) (ci := 10) (v := .ref (b 32)) (C := RX10) (T := TX10) (N := 39) hx hb hts inX10 hown hK hP 0 rfl rfl 32 (by decide) lf74 (fun _ h9 => h9) rfl dX10_findOrder_75 ?_
              refine lv_iload_n hx hb dX10_findOrder_78 rfl (lv_at hl 3 rfl) ?_
              have b13 : vp_in y14_3 8 := inC rfl (by omega) (by omega)
              refine va_iald hx hb hK hP 20 0 rfl rfl b13 dX10_findOrder_79 ?_
              have g14 : -1 ≤ (mord_u11 y14_3.toNatClampNeg).toInt ∧ (mord_u11 y14_3.toNatClampNeg).toInt ≤ 8 := rg_at rmord_u11 b13
              have o15 : (mord_u11 y14_3.toNatClampNeg).toInt = x8.toInt := by rw [emord_u11, pk_us]
              refine lv_iload_n hx hb dX10_findOrder_80 rfl (lv_at hl 1 rfl) ?_
              refine lv_icmp_ne (tgt := 90) hx hb dX10_findOrder_81 (by decide) (fun c16 => ?_) (fun c16 => ?_)
              · have dc16 : (mord_u11 y14_3.toNatClampNeg).toInt ≠ n.toInt := neC rfl rfl c16
                refine lv_iload hx hb dX10_findOrder_90 (lv_at hl 4 rfl) ?_
                refine lv_if_eq (tgt := 181) hx hb dX10_findOrder_92 (by decide) (fun c17 => ?_) (fun c17 => ?_)
                · have dc17 : y34_4.toInt = 0 := eqC rfl (show (0 : Int32).toInt = 0 from rfl) c17
                  refine lv_iload hx hb dX10_findOrder_181 (lv_at hl 4 rfl) ?_
                  refine lv_if_eq (tgt := 196) hx hb dX10_findOrder_183 (by decide) (fun c18 => ?_) (fun c18 => ?_)
                  · have dc18 : y34_4.toInt = 0 := eqC rfl (show (0 : Int32).toInt = 0 from rfl) c18
                    refine lv_goto (tgt := 14) hx hb dX10_findOrder_196 (by decide) ?_
                    exact ih14 y14_3 mbsm_14 mord_u11 mbor_14 _ _ _ rmord_u11 (by omega) (by omega) (by omega) (by (first | exact ok_down3 emord_u11 i14_3 rfl (by omega) (by omega) | exact ok_same3 emord_u11 i14_3 rfl (by omega) (by omega) (by omega) | exact ok_up3 emord_u11 (by assumption) i14_3 (by omega) rfl (by omega) (by omega) (by omega) (by omega) rfl (by omega) | exact ok_back3 emord_u11 (by assumption) i14_3 rfl (by omega) (by omega) (by omega) (by omega) (by omega) | exact ok_init3 emord_u11 rfl rfl (by omega))) (by (refine Nat.lt_of_lt_of_le ?_ (Nat.le_of_lt_succ hm14); first | exact om_down3 emord_u11 (by decide) rfl (by omega) (by omega) (by omega) | exact om_same3 emord_u11 (by decide) rfl (by omega) (by omega) (by omega) | exact om_up3 emord_u11 (by assumption) (by omega) rfl (by omega) (by omega) (by omega) (by omega) (by omega) rfl (by omega) | exact om_back3 emord_u11 (by assumption) (by decide) rfl (by omega) (by omega) (by omega) (by omega) (by omega))) hP hD hS (lv_sub hl [0, 1, 2, 3] rfl)
                  · have dc18 : 1 ≤ y34_4.toInt := ka_lo (by omega) (neC rfl (show (0 : Int32).toInt = 0 from rfl) c18)
                    exfalso
                    omega
                · have dc17 : y34_4.toInt ≠ 0 := neC rfl (show (0 : Int32).toInt = 0 from rfl) c17
                  refine lv_iload_n hx hb dX10_findOrder_95 rfl (lv_at hl 3 rfl) ?_
                  refine lv_iload_n hx hb dX10_findOrder_96 rfl (lv_at hl 1 rfl) ?_
                  refine lv_iconst (v := 1) hx hb dX10_findOrder_97 (by decide) ?_
                  refine lv_isub hx hb dX10_findOrder_98 ?_
                  have f19 : (n - 1).toInt = (n.toInt) - (1) := subC rfl (show (1 : Int32).toInt = 1 from rfl) (by omega) (by omega)
                  refine lv_icmp_ne (tgt := 181) hx hb dX10_findOrder_99 (by decide) (fun c20 => ?_) (fun c20 => ?_)
                  · have dc20 : y14_3.toInt ≠ (n.toInt) - (1) := neC rfl f19 c20
                    refine lv_iload hx hb dX10_findOrder_181 (lv_at hl 4 rfl) ?_
                    refine lv_if_eq (tgt := 196) hx hb dX10_findOrder_183 (by decide) (fun c21 => ?_) (fun c21 => ?_)
                    · have dc21 : y34_4.toInt = 0 := eqC rfl (show (0 : Int32).toInt = 0 from rfl) c21
                      refine lv_goto (tgt := 14) hx hb dX10_findOrder_196 (by decide) ?_
                      exact ih14 y14_3 mbsm_14 mord_u11 mbor_14 _ _ _ rmord_u11 (by omega) (by omega) (by omega) (by (first | exact ok_down3 emord_u11 i14_3 rfl (by omega) (by omega) | exact ok_same3 emord_u11 i14_3 rfl (by omega) (by omega) (by omega) | exact ok_up3 emord_u11 (by assumption) i14_3 (by omega) rfl (by omega) (by omega) (by omega) (by omega) rfl (by omega) | exact ok_back3 emord_u11 (by assumption) i14_3 rfl (by omega) (by omega) (by omega) (by omega) (by omega) | exact ok_init3 emord_u11 rfl rfl (by omega))) (by (refine Nat.lt_of_lt_of_le ?_ (Nat.le_of_lt_succ hm14); first | exact om_down3 emord_u11 (by decide) rfl (by omega) (by omega) (by omega) | exact om_same3 emord_u11 (by decide) rfl (by omega) (by omega) (by omega) | exact om_up3 emord_u11 (by assumption) (by omega) rfl (by omega) (by omega) (by omega) (by omega) (by omega) rfl (by omega) | exact om_back3 emord_u11 (by assumption) (by decide) rfl (by omega) (by omega) (by omega) (by omega) (by omega))) hP hD hS (lv_sub hl [0, 1, 2, 3] rfl)
                    · have dc21 : y34_4.toInt ≠ 0 := neC rfl (show (0 : Int32).toInt = 0 from rfl) c21
                      obtain ⟨z22, ez22⟩ : ∃ y : Int32, y = y14_3 + 1 := ⟨_, rfl⟩
                      have iz22 : z22.toInt = y14_3.toInt + 1 := by rw [ez22]; exact addC rfl rfl (by omega) (by omega)
                      refine lv_iinc (v := z22) (lv' := [(3, .int z22), (0, .ref (b 39)), (1, .int n), (2, .int sp), (4, .int y34_4), (5, .int y34_5)]) hx hb dX10_findOrder_186 hl (k := 3) rfl (by rw [ez22]; rfl) (by decide) rfl (fun ls hl => ?_)
                      refine lv_aload_n hx hb dX10_findOrder_189 rfl (lv_at hl 1 rfl) ?_
                      refine va_get (D := (dC, dI)) (ci := 10) (v := .ref (b 32)) (C := RX10) (T := TX10) (N := 39) hx hb hts inX10 hown hK hP 0 rfl rfl 32 (by decide) lf74 (fun _ h9 => h9) rfl dX10_findOrder_190 ?_
                      refine lv_iload_n hx hb dX10_findOrder_193 rfl (lv_at hl 0 rfl) ?_
                      refine lv_iconst (v := (-1)) hx hb dX10_findOrder_194 (by decide) ?_
                      have b23 : vp_in z22 8 := inC rfl (by omega) (by omega)
                      have g24 : rg 8 (-1) (8) (upd mord_u11 z22.toNatClampNeg (-1)) := rg_upd rmord_u11 (show ((-1) : Int32).toInt = (-1) from rfl) (by omega) (by omega)
                      refine va_iast hx hb hK hP hD hS 20 0 rfl rfl b23 dX10_findOrder_195 (fun H locs hP hD hS => ?_)
                      obtain ⟨mord_u25, emord_u25⟩ : ∃ f : Nat → Int32, f = upd mord_u11 z22.toNatClampNeg (-1) := ⟨_, rfl⟩
                      have rmord_u25 : rg 8 (-1) (8) mord_u25 := by rw [emord_u25]; exact g24
                      have hP : va_P (dC, dI) vwCl (wMod cI cZ cQ b mday mdoo mdA mdB mfar mmar mtel mgai mfal mtop mstr mgho mfai mpto mwal mahd mahf mcho mbes mbyt mtxt mpos mtka mtok mdig mnum mfau mrdm mrea mlin mlne mthg mord_u25 mbor_14 mbsm_14 mans mand manr mali) H := by rw [emord_u25]; exact hP
                      have hD : va_D A (wMod cI cZ cQ b mday mdoo mdA mdB mfar mmar mtel mgai mfal mtop mstr mgho mfai mpto mwal mahd mahf mcho mbes mbyt mtxt mpos mtka mtok mdig mnum mfau mrdm mrea mlin mlne mthg mord_u25 mbor_14 mbsm_14 mans mand manr mali) := by rw [emord_u25]; exact hD
                      refine lv_goto (tgt := 14) hx hb dX10_findOrder_196 (by decide) ?_
                      exact ih14 z22 mbsm_14 mord_u25 mbor_14 _ _ _ rmord_u25 (by omega) (by omega) (by omega) (by (first | exact ok_down3 emord_u25 i14_3 rfl (by omega) (by omega) | exact ok_same3 emord_u25 i14_3 rfl (by omega) (by omega) (by omega) | exact ok_up3 emord_u25 (by assumption) i14_3 (by omega) rfl (by omega) (by omega) (by omega) (by omega) rfl (by omega) | exact ok_back3 emord_u25 (by assumption) i14_3 rfl (by omega) (by omega) (by omega) (by omega) (by omega) | exact ok_init3 emord_u25 rfl rfl (by omega))) (by (refine Nat.lt_of_lt_of_le ?_ (Nat.le_of_lt_succ hm14); first | exact om_down3 emord_u25 (by decide) rfl (by omega) (by omega) (by omega) | exact om_same3 emord_u25 (by decide) rfl (by omega) (by omega) (by omega) | exact om_up3 emord_u25 (by assumption) (by omega) rfl (by omega) (by omega) (by omega) (by omega) (by omega) rfl (by omega) | exact om_back3 emord_u25 (by assumption) (by decide) rfl (by omega) (by omega) (by omega) (by omega) (by omega))) hP hD hS (lv_sub hl [1, 2, 3, 0] rfl)
                  · have dc20 : y14_3.toInt = (n.toInt) - (1) := eqC rfl f19 c20
                    have wf := ok_full3 emord_u11 i14_3 rfl (by omega) (by omega) (by omega) (by omega)
                    have L121 : ∀ (y121_5 : Int32) (H : Heap) (locs : List Loc) (ls : Array Slot), va_P (dC, dI) vwCl (wMod cI cZ cQ b mday mdoo mdA mdB mfar mmar mtel mgai mfal mtop mstr mgho mfai mpto mwal mahd mahf mcho mbes mbyt mtxt mpos mtka mtok mdig mnum mfau mrdm mrea mlin mlne mthg mord_u11 mbor_14 mbsm_14 mans mand manr mali) H → va_D A (wMod cI cZ cQ b mday mdoo mdA mdB mfar mmar mtel mgai mfal mtop mstr mgho mfai mpto mwal mahd mahf mcho mbes mbyt mtxt mpos mtka mtok mdig mnum mfau mrdm mrea mlin mlne mthg mord_u11 mbor_14 mbsm_14 mans mand manr mali) → va_S A s.heap H locs → lv_has ls 7 [(0, .ref (b 39)), (1, .int n), (2, .int sp), (3, .int y14_3), (5, .int y121_5)] → W p l e (headSpec wsX10_findOrder { frames := 2, cells := 0, slots := 0, locals := 49 }).room s m ([.ref (b 39), .int n, .int sp] : List Value).toArray below meth c H locs 0 0 (MQ below (va_Qv (fun (u : US) => (rg 8 (-1) (8) (u.1 1))) (Bw (dC, dI) A (fun u : US => (wMod cI cZ cQ b mday mdoo mdA mdB mfar mmar mtel mgai mfal mtop mstr mgho mfai mpto mwal mahd mahf mcho mbes mbyt mtxt mpos mtka mtok mdig mnum mfau mrdm mrea mlin mlne mthg (u.1 1) (u.1 2) (u.1 0 0) mans mand manr mali))) A) ([.ref (b 39), .int n, .int sp] : List Value).toArray s 0 0 A) (F0 m 121 ls []) := by
                      intro y121_5 H locs ls  hP hD hS hl
                      have L138 : ∀ (H : Heap) (locs : List Loc) (ls : Array Slot), va_P (dC, dI) vwCl (wMod cI cZ cQ b mday mdoo mdA mdB mfar mmar mtel mgai mfal mtop mstr mgho mfai mpto mwal mahd mahf mcho mbes mbyt mtxt mpos mtka mtok mdig mnum mfau mrdm mrea mlin mlne mthg mord_u11 mbor_14 mbsm_14 mans mand manr mali) H → va_D A (wMod cI cZ cQ b mday mdoo mdA mdB mfar mmar mtel mgai mfal mtop mstr mgho mfai mpto mwal mahd mahf mcho mbes mbyt mtxt mpos mtka mtok mdig mnum mfau mrdm mrea mlin mlne mthg mord_u11 mbor_14 mbsm_14 mans mand manr mali) → va_S A s.heap H locs → lv_has ls 7 [(0, .ref (b 39)), (1, .int n), (2, .int sp), (3, .int y14_3), (5, .int y121_5)] → W p l e (headSpec wsX10_findOrder { frames := 2, cells := 0, slots := 0, locals := 49 }).room s m ([.ref (b 39), .int n, .int sp] : List Value).toArray below meth c H locs 0 0 (MQ below (va_Qv (fun (u : US) => (rg 8 (-1) (8) (u.1 1))) (Bw (dC, dI) A (fun u : US => (wMod cI cZ cQ b mday mdoo mdA mdB mfar mmar mtel mgai mfal mtop mstr mgho mfai mpto mwal mahd mahf mcho mbes mbyt mtxt mpos mtka mtok mdig mnum mfau mrdm mrea mlin mlne mthg (u.1 1) (u.1 2) (u.1 0 0) mans mand manr mali))) A) ([.ref (b 39), .int n, .int sp] : List Value).toArray s 0 0 A) (F0 m 138 ls []) := by
                        intro  H locs ls  hP hD hS hl
                        refine lv_aload_n hx hb dX10_findOrder_138 rfl (lv_at hl 0 rfl) ?_
                        refine lv_iload hx hb dX10_findOrder_139 (lv_at hl 4 rfl) ?_
                        refine va_put (D := (dC, dI)) (ci := 10) (v := .int y121_5) (ty := .int) (C := RX10) (T := TX10) (N := 39) hx hb hts inX10 tyX10 tyX10_ok nmX10 hown hK hP hD hS 0 rfl rfl 34 (by decide) lf225 (fun _ h9 => h9) rfl (by decide +kernel) rfl rfl (Nat.le_of_ble_eq_true rfl) dX10_findOrder_141 (fun H locs hP hD hS => ?_)
                        have hP : va_P (dC, dI) vwCl (wMod cI cZ cQ b mday mdoo mdA mdB mfar mmar mtel mgai mfal mtop mstr mgho mfai mpto mwal mahd mahf mcho mbes mbyt mtxt mpos mtka mtok mdig mnum mfau mrdm mrea mlin mlne mthg mord_u11 mbor_14 y121_5 mans mand manr mali) H := hP
                        have hD : va_D A (wMod cI cZ cQ b mday mdoo mdA mdB mfar mmar mtel mgai mfal mtop mstr mgho mfai mpto mwal mahd mahf mcho mbes mbyt mtxt mpos mtka mtok mdig mnum mfau mrdm mrea mlin mlne mthg mord_u11 mbor_14 y121_5 mans mand manr mali) := hD
                        refine lv_iconst (v := 0) hx hb dX10_findOrder_144 (by decide) ?_
                        refine lv_istore (lv' := [(6, .int 0), (0, .ref (b 39)), (1, .int n), (2, .int sp), (3, .int y14_3), (5, .int y121_5)]) hx hb dX10_findOrder_145 hl (by decide) rfl (fun ls hl => ?_)
                        have L147 : ∀ (nn : Nat) (y147_6 : Int32) (mbor_147 : Nat → Int32) (H : Heap) (locs : List Loc) (ls : Array Slot), (0 ≤ (y147_6.toInt)) → ((y147_6.toInt) ≤ 8) → (8 - (y147_6.toInt)).toNat < nn → va_P (dC, dI) vwCl (wMod cI cZ cQ b mday mdoo mdA mdB mfar mmar mtel mgai mfal mtop mstr mgho mfai mpto mwal mahd mahf mcho mbes mbyt mtxt mpos mtka mtok mdig mnum mfau mrdm mrea mlin mlne mthg mord_u11 mbor_147 y121_5 mans mand manr mali) H → va_D A (wMod cI cZ cQ b mday mdoo mdA mdB mfar mmar mtel mgai mfal mtop mstr mgho mfai mpto mwal mahd mahf mcho mbes mbyt mtxt mpos mtka mtok mdig mnum mfau mrdm mrea mlin mlne mthg mord_u11 mbor_147 y121_5 mans mand manr mali) → va_S A s.heap H locs → lv_has ls 7 [(0, .ref (b 39)), (1, .int n), (2, .int sp), (3, .int y14_3), (6, .int y147_6)] → W p l e (headSpec wsX10_findOrder { frames := 2, cells := 0, slots := 0, locals := 49 }).room s m ([.ref (b 39), .int n, .int sp] : List Value).toArray below meth c H locs 0 0 (MQ below (va_Qv (fun (u : US) => (rg 8 (-1) (8) (u.1 1))) (Bw (dC, dI) A (fun u : US => (wMod cI cZ cQ b mday mdoo mdA mdB mfar mmar mtel mgai mfal mtop mstr mgho mfai mpto mwal mahd mahf mcho mbes mbyt mtxt mpos mtka mtok mdig mnum mfau mrdm mrea mlin mlne mthg (u.1 1) (u.1 2) (u.1 0 0) mans mand manr mali))) A) ([.ref (b 39), .int n, .int sp] : List Value).toArray s 0 0 A) (F0 m 147 ls []) := by
                          intro nn
                          induction nn with
                          | zero =>
                            intro y147_6 mbor_147 H locs ls i147_0 i147_1 hm147
                            exact absurd hm147 (Nat.not_lt_zero _)
                          | succ nn ih147 =>
                            intro y147_6 mbor_147 H locs ls i147_0 i147_1 hm147 hP hD hS hl
                            refine lv_iload hx hb dX10_findOrder_147 (lv_at hl 4 rfl) ?_
                            refine lv_iload_n hx hb dX10_findOrder_149 rfl (lv_at hl 1 rfl) ?_
                            refine lv_icmp_ge (tgt := 178) hx hb dX10_findOrder_150 (by decide) (fun c26 => ?_) (fun c26 => ?_)
                            · have dc26 : n.toInt ≤ y147_6.toInt := leC rfl rfl c26
                              refine lv_goto (tgt := 196) hx hb dX10_findOrder_178 (by decide) ?_
                              refine lv_goto (tgt := 14) hx hb dX10_findOrder_196 (by decide) ?_
                              exact ih14 y14_3 y121_5 mord_u11 mbor_147 _ _ _ rmord_u11 (by omega) (by omega) (by omega) (by (first | exact ok_down3 emord_u11 i14_3 rfl (by omega) (by omega) | exact ok_same3 emord_u11 i14_3 rfl (by omega) (by omega) (by omega) | exact ok_up3 emord_u11 (by assumption) i14_3 (by omega) rfl (by omega) (by omega) (by omega) (by omega) rfl (by omega) | exact ok_back3 emord_u11 (by assumption) i14_3 rfl (by omega) (by omega) (by omega) (by omega) (by omega) | exact ok_init3 emord_u11 rfl rfl (by omega))) (by (refine Nat.lt_of_lt_of_le ?_ (Nat.le_of_lt_succ hm14); first | exact om_down3 emord_u11 (by decide) rfl (by omega) (by omega) (by omega) | exact om_same3 emord_u11 (by decide) rfl (by omega) (by omega) (by omega) | exact om_up3 emord_u11 (by assumption) (by omega) rfl (by omega) (by omega) (by omega) (by omega) (by omega) rfl (by omega) | exact om_back3 emord_u11 (by assumption) (by decide) rfl (by omega) (by omega) (by omega) (by omega) (by omega))) hP hD hS (lv_sub hl [0, 1, 2, 3] rfl)
                            · have dc26 : y147_6.toInt < n.toInt := nleC rfl rfl c26
                              refine lv_aload_n hx hb dX10_findOrder_153 rfl (lv_at hl 0 rfl) ?_
                              refine va_get (D := (dC, dI)) (ci := 10) (v := .ref (b 33)) (C := RX10) (T := TX10) (N := 39) hx hb hts inX10 hown hK hP 0 rfl rfl 33 (by decide) lf77 (fun _ h9 => h9) rfl dX10_findOrder_154 ?_
                              refine lv_iload hx hb dX10_findOrder_157 (lv_at hl 4 rfl) ?_
                              refine lv_aload_n hx hb dX10_findOrder_159 rfl (lv_at hl 0 rfl) ?_
                              refine va_get (D := (dC, dI)) (ci := 10) (v := .ref (b 31)) (C := RX10) (T := TX10) (N := 39) hx hb hts inX10 hown hK hP 0 rfl rfl 31 (by decide) lf71 (fun _ h9 => h9) rfl dX10_findOrder_160 ?_
                              refine lv_aload_n hx hb dX10_findOrder_163 rfl (lv_at hl 0 rfl) ?_
                              refine va_get (D := (dC, dI)) (ci := 10) (v := .ref (b 32)) (C := RX10) (T := TX10) (N := 39) hx hb hts inX10 hown hK hP 0 rfl rfl 32 (by decide) lf74 (fun _ h9 => h9) rfl dX10_findOrder_164 ?_
                              refine lv_iload hx hb dX10_findOrder_167 (lv_at hl 4 rfl) ?_
                              have w169 := of_at wf (y := y147_6) (rfl) (by omega) (by omega)
                              have b27 : vp_in y147_6 8 := inC rfl (by omega) (by omega)
                              refine va_iald hx hb hK hP 20 0 rfl rfl b27 dX10_findOrder_169 ?_
                              have g28 : -1 ≤ (mord_u11 y147_6.toNatClampNeg).toInt ∧ (mord_u11 y147_6.toNatClampNeg).toInt ≤ 8 := rg_at rmord_u11 b27
                              have b29 : vp_in (mord_u11 y147_6.toNatClampNeg) 8 := inC rfl (by omega) (by omega)
                              refine va_iald hx hb hK hP 19 0 rfl rfl b29 dX10_findOrder_170 ?_
                              have g30 : 0 ≤ (mthg (mord_u11 y147_6.toNatClampNeg).toNatClampNeg).toInt ∧ (mthg (mord_u11 y147_6.toNatClampNeg).toNatClampNeg).toInt ≤ 31 := rg_at r_mthg b29
                              refine lv_topi (fun x31 ex31 => ?_)
                              have ix31 : x31.toInt = (mthg (mord_u11 y147_6.toNatClampNeg).toNatClampNeg).toInt := by rw [ex31]
                              have b32 : vp_in y147_6 8 := inC rfl (by omega) (by omega)
                              refine va_iast hx hb hK hP hD hS 21 0 rfl rfl b32 dX10_findOrder_171 (fun H locs hP hD hS => ?_)
                              obtain ⟨mbor_u33, embor_u33⟩ : ∃ f : Nat → Int32, f = upd mbor_147 y147_6.toNatClampNeg x31 := ⟨_, rfl⟩
                              have hP : va_P (dC, dI) vwCl (wMod cI cZ cQ b mday mdoo mdA mdB mfar mmar mtel mgai mfal mtop mstr mgho mfai mpto mwal mahd mahf mcho mbes mbyt mtxt mpos mtka mtok mdig mnum mfau mrdm mrea mlin mlne mthg mord_u11 mbor_u33 y121_5 mans mand manr mali) H := by rw [embor_u33]; exact hP
                              have hD : va_D A (wMod cI cZ cQ b mday mdoo mdA mdB mfar mmar mtel mgai mfal mtop mstr mgho mfai mpto mwal mahd mahf mcho mbes mbyt mtxt mpos mtka mtok mdig mnum mfau mrdm mrea mlin mlne mthg mord_u11 mbor_u33 y121_5 mans mand manr mali) := by rw [embor_u33]; exact hD
                              obtain ⟨z34, ez34⟩ : ∃ y : Int32, y = y147_6 + 1 := ⟨_, rfl⟩
                              have iz34 : z34.toInt = y147_6.toInt + 1 := by rw [ez34]; exact addC rfl rfl (by omega) (by omega)
                              refine lv_iinc (v := z34) (lv' := [(6, .int z34), (0, .ref (b 39)), (1, .int n), (2, .int sp), (3, .int y14_3)]) hx hb dX10_findOrder_172 hl (k := 4) rfl (by rw [ez34]; rfl) (by decide) rfl (fun ls hl => ?_)
                              refine lv_goto (tgt := 147) hx hb dX10_findOrder_175 (by decide) ?_
                              exact ih147 z34 mbor_u33 _ _ _ (by omega) (by omega) (by omega) hP hD hS (lv_sub hl [1, 2, 3, 4, 0] rfl)
                        have kc35 : (0 : Int32).toInt = 0 := rfl
                        exact L147 _ 0 mbor_14 _ _ _ (by omega) (by omega) (Nat.lt_succ_self _) hP hD hS (lv_sub hl [1, 2, 3, 4, 0] rfl)
                      refine lv_aload_n hx hb dX10_findOrder_121 rfl (lv_at hl 0 rfl) ?_
                      refine va_get (D := (dC, dI)) (ci := 10) (v := .int mbsm_14) (C := RX10) (T := TX10) (N := 39) hx hb hts inX10 hown hK hP 0 rfl rfl 34 (by decide) lf225 (fun _ h9 => h9) rfl dX10_findOrder_122 ?_
                      refine lv_iconst (v := (-1)) hx hb dX10_findOrder_125 (by decide) ?_
                      refine lv_icmp_eq (tgt := 138) hx hb dX10_findOrder_126 (by decide) (fun c36 => ?_) (fun c36 => ?_)
                      · have dc36 : mbsm_14.toInt = (-1) := eqC rfl (show ((-1) : Int32).toInt = (-1) from rfl) c36
                        exact L138  _ _ _  hP hD hS (lv_sub hl [0, 1, 2, 3, 4] rfl)
                      · have dc36 : mbsm_14.toInt ≠ (-1) := neC rfl (show ((-1) : Int32).toInt = (-1) from rfl) c36
                        refine lv_iload hx hb dX10_findOrder_129 (lv_at hl 4 rfl) ?_
                        refine lv_aload_n hx hb dX10_findOrder_131 rfl (lv_at hl 0 rfl) ?_
                        refine va_get (D := (dC, dI)) (ci := 10) (v := .int mbsm_14) (C := RX10) (T := TX10) (N := 39) hx hb hts inX10 hown hK hP 0 rfl rfl 34 (by decide) lf225 (fun _ h9 => h9) rfl dX10_findOrder_132 ?_
                        refine lv_icmp_ge (tgt := 178) hx hb dX10_findOrder_135 (by decide) (fun c37 => ?_) (fun c37 => ?_)
                        · have dc37 : mbsm_14.toInt ≤ y121_5.toInt := leC rfl rfl c37
                          refine lv_goto (tgt := 196) hx hb dX10_findOrder_178 (by decide) ?_
                          refine lv_goto (tgt := 14) hx hb dX10_findOrder_196 (by decide) ?_
                          exact ih14 y14_3 mbsm_14 mord_u11 mbor_14 _ _ _ rmord_u11 (by omega) (by omega) (by omega) (by (first | exact ok_down3 emord_u11 i14_3 rfl (by omega) (by omega) | exact ok_same3 emord_u11 i14_3 rfl (by omega) (by omega) (by omega) | exact ok_up3 emord_u11 (by assumption) i14_3 (by omega) rfl (by omega) (by omega) (by omega) (by omega) rfl (by omega) | exact ok_back3 emord_u11 (by assumption) i14_3 rfl (by omega) (by omega) (by omega) (by omega) (by omega) | exact ok_init3 emord_u11 rfl rfl (by omega))) (by (refine Nat.lt_of_lt_of_le ?_ (Nat.le_of_lt_succ hm14); first | exact om_down3 emord_u11 (by decide) rfl (by omega) (by omega) (by omega) | exact om_same3 emord_u11 (by decide) rfl (by omega) (by omega) (by omega) | exact om_up3 emord_u11 (by assumption) (by omega) rfl (by omega) (by omega) (by omega) (by omega) (by omega) rfl (by omega) | exact om_back3 emord_u11 (by assumption) (by decide) rfl (by omega) (by omega) (by omega) (by omega) (by omega))) hP hD hS (lv_sub hl [0, 1, 2, 3] rfl)
                        · have dc37 : y121_5.toInt < mbsm_14.toInt := nleC rfl rfl c37
                          exact L138  _ _ _  hP hD hS (lv_sub hl [0, 1, 2, 3, 4] rfl)
                    refine lv_iload_n hx hb dX10_findOrder_102 rfl (lv_at hl 2 rfl) ?_
                    refine lv_if_eq (tgt := 114) hx hb dX10_findOrder_103 (by decide) (fun c38 => ?_) (fun c38 => ?_)
                    · have dc38 : sp.toInt = 0 := eqC rfl (show (0 : Int32).toInt = 0 from rfl) c38
                      refine lv_aload_n hx hb dX10_findOrder_114 rfl (lv_at hl 0 rfl) ?_
                      refine lv_iload_n hx hb dX10_findOrder_115 rfl (lv_at hl 1 rfl) ?_
                      refine rdV (As := [.int n]) (rest := []) ⟨hx, hb, hml, hown, hts⟩ (k_X10_harmOf l dC dI cI cZ cQ b mday mdoo mdA mdB mfar mmar mtel mgai mfal mtop mstr mgho mfai mpto mwal mahd mahf mcho mbes mbyt mtxt mpos mtka mtok mdig mnum mfau mrdm mrea mlin mlne mthg mord_u11 mbor_14 mbsm_14 mans mand manr mali n r_mday r_mdoo r_mdA r_mdB r_mmar r_mgai r_mfal r_mtop r_mstr r_mgho r_mfai r_mahd r_mahf r_mcho r_mbyt r_mpos r_mrdm r_mlin r_mthg rmord_u11 r_mans (by omega) (by omega) (by exact q2) (by exact wf)) (cwV 1 hts gX10_findOrder_X10_harmOf rfl rfl rfl (by decide +kernel) ⟨Nat.le_of_ble_eq_true rfl, Nat.le_of_ble_eq_true rfl⟩) hP hK hN [0, 1, 2, 3, 4, 5, 6, 7, 8, 9, 10, 11, 12, 13, 14, 15, 16, 17, 18, 19, 20, 21, 22, 23, 24, 25] rfl 0 10 rfl rfl rfl hl.1 rfl (Nat.le_of_ble_eq_true rfl) dX10_findOrder_116 ⟨Nat.le_of_ble_eq_true rfl, Nat.le_of_ble_eq_true rfl⟩ (fun r39 h40 => ?_)
                      have h40 : True := h40
                      refine lv_istore (lv' := [(5, .int r39), (0, .ref (b 39)), (1, .int n), (2, .int sp), (3, .int y14_3), (4, .int y34_4)]) hx hb dX10_findOrder_119 hl (by decide) rfl (fun ls hl => ?_)
                      exact L121 r39 _ _ _  hP hD hS (lv_sub hl [1, 2, 3, 4, 0] rfl)
                    · have dc38 : sp.toInt ≠ 0 := neC rfl (show (0 : Int32).toInt = 0 from rfl) c38
                      refine lv_aload_n hx hb dX10_findOrder_106 rfl (lv_at hl 0 rfl) ?_
                      refine lv_iload_n hx hb dX10_findOrder_107 rfl (lv_at hl 1 rfl) ?_
                      refine rdV (As := [.int n]) (rest := []) ⟨hx, hb, hml, hown, hts⟩ (k_X10_speechOf l dC dI cI cZ cQ b mday mdoo mdA mdB mfar mmar mtel mgai mfal mtop mstr mgho mfai mpto mwal mahd mahf mcho mbes mbyt mtxt mpos mtka mtok mdig mnum mfau mrdm mrea mlin mlne mthg mord_u11 mbor_14 mbsm_14 mans mand manr mali n r_mday r_mdoo r_mdA r_mdB r_mmar r_mgai r_mfal r_mtop r_mstr r_mgho r_mfai r_mahd r_mahf r_mcho r_mbyt r_mpos r_mrdm r_mlin r_mthg rmord_u11 r_mans (by omega) (by omega) (by exact q2) (by exact wf)) (cwV 1 hts gX10_findOrder_X10_speechOf rfl rfl rfl (by decide +kernel) ⟨Nat.le_of_ble_eq_true rfl, Nat.le_of_ble_eq_true rfl⟩) hP hK hN [0, 1, 2, 3, 4, 5, 6, 7, 8, 9, 10, 11, 12, 13, 14, 15, 16, 17, 18, 19, 20, 21, 22, 23, 24, 25] rfl 0 10 rfl rfl rfl hl.1 rfl (Nat.le_of_ble_eq_true rfl) dX10_findOrder_108 ⟨Nat.le_of_ble_eq_true rfl, Nat.le_of_ble_eq_true rfl⟩ (fun r41 h42 => ?_)
                      have h42 : True := h42
                      refine lv_goto (tgt := 119) hx hb dX10_findOrder_111 (by decide) ?_
                      refine lv_istore (lv' := [(5, .int r41), (0, .ref (b 39)), (1, .int n), (2, .int sp), (3, .int y14_3), (4, .int y34_4)]) hx hb dX10_findOrder_119 hl (by decide) rfl (fun ls hl => ?_)
                      exact L121 r41 _ _ _  hP hD hS (lv_sub hl [1, 2, 3, 4, 0] rfl)
              · have dc16 : (mord_u11 y14_3.toNatClampNeg).toInt = n.toInt := eqC rfl rfl c16
                obtain ⟨z43, ez43⟩ : ∃ y : Int32, y = y14_3 + (-1) := ⟨_, rfl⟩
                have iz43 : z43.toInt = y14_3.toInt + (-1) := by rw [ez43]; exact addC rfl rfl (by omega) (by omega)
                refine lv_iinc (v := z43) (lv' := [(3, .int z43), (0, .ref (b 39)), (1, .int n), (2, .int sp), (4, .int y34_4), (5, .int y34_5)]) hx hb dX10_findOrder_84 hl (k := 3) rfl (by rw [ez43]; rfl) (by decide) rfl (fun ls hl => ?_)
                refine lv_goto (tgt := 196) hx hb dX10_findOrder_87 (by decide) ?_
                refine lv_goto (tgt := 14) hx hb dX10_findOrder_196 (by decide) ?_
                exact ih14 z43 mbsm_14 mord_u11 mbor_14 _ _ _ rmord_u11 (by omega) (by omega) (by omega) (by (first | exact ok_down3 emord_u11 i14_3 rfl (by omega) (by omega) | exact ok_same3 emord_u11 i14_3 rfl (by omega) (by omega) (by omega) | exact ok_up3 emord_u11 (by assumption) i14_3 (by omega) rfl (by omega) (by omega) (by omega) (by omega) rfl (by omega) | exact ok_back3 emord_u11 (by assumption) i14_3 rfl (by omega) (by omega) (by omega) (by omega) (by omega) | exact ok_init3 emord_u11 rfl rfl (by omega))) (by (refine Nat.lt_of_lt_of_le ?_ (Nat.le_of_lt_succ hm14); first | exact om_down3 emord_u11 (by decide) rfl (by omega) (by omega) (by omega) | exact om_same3 emord_u11 (by decide) rfl (by omega) (by omega) (by omega) | exact om_up3 emord_u11 (by assumption) (by omega) rfl (by omega) (by omega) (by omega) (by omega) (by omega) rfl (by omega) | exact om_back3 emord_u11 (by assumption) (by decide) rfl (by omega) (by omega) (by omega) (by omega) (by omega))) hP hD hS (lv_sub hl [1, 2, 3, 0] rfl)
            · have dc12 : y34_5.toInt < y14_3.toInt := nleC rfl rfl c12
              have L68 : ∀ (y68_4 : Int32) (H : Heap) (locs : List Loc) (ls : Array Slot), va_P (dC, dI) vwCl (wMod cI cZ cQ b mday mdoo mdA mdB mfar mmar mtel mgai mfal mtop mstr mgho mfai mpto mwal mahd mahf mcho mbes mbyt mtxt mpos mtka mtok mdig mnum mfau mrdm mrea mlin mlne mthg mord_u11 mbor_14 mbsm_14 mans mand manr mali) H → va_D A (wMod cI cZ cQ b mday mdoo mdA mdB mfar mmar mtel mgai mfal mtop mstr mgho mfai mpto mwal mahd mahf mcho mbes mbyt mtxt mpos mtka mtok mdig mnum mfau mrdm mrea mlin mlne mthg mord_u11 mbor_14 mbsm_14 mans mand manr mali) → va_S A s.heap H locs → lv_has ls 7 [(0, .ref (b 39)), (1, .int n), (2, .int sp), (3, .int y14_3), (4, .int y68_4), (5, .int y34_5)] → W p l e (headSpec wsX10_findOrder { frames := 2, cells := 0, slots := 0, locals := 49 }).room s m ([.ref (b 39), .int n, .int sp] : List Value).toArray below meth c H locs 0 0 (MQ below (va_Qv (fun (u : US) => (rg 8 (-1) (8) (u.1 1))) (Bw (dC, dI) A (fun u : US => (wMod cI cZ cQ b mday mdoo mdA mdB mfar mmar mtel mgai mfal mtop mstr mgho mfai mpto mwal mahd mahf mcho mbes mbyt mtxt mpos mtka mtok mdig mnum mfau mrdm mrea mlin mlne mthg (u.1 1) (u.1 2) (u.1 0 0) mans mand manr mali))) A) ([.ref (b 39), .int n, .int sp] : List Value).toArray s 0 0 A) (F0 m 68 ls []) := by
                intro y68_4 H locs ls  hP hD hS hl
                obtain ⟨z44, ez44⟩ : ∃ y : Int32, y = y34_5 + 1 := ⟨_, rfl⟩
                have iz44 : z44.toInt = y34_5.toInt + 1 := by rw [ez44]; exact addC rfl rfl (by omega) (by omega)
                refine lv_iinc (v := z44) (lv' := [(5, .int z44), (0, .ref (b 39)), (1, .int n), (2, .int sp), (3, .int y14_3), (4, .int y68_4)]) hx hb dX10_findOrder_68 hl (k := 5) rfl (by rw [ez44]; rfl) (by decide) rfl (fun ls hl => ?_)
                refine lv_goto (tgt := 34) hx hb dX10_findOrder_71 (by decide) ?_
                exact ih34 y68_4 z44 _ _ _ (by omega) (by omega) (by omega) hP hD hS (lv_sub hl [1, 2, 3, 4, 5, 0] rfl)
              refine lv_iload hx hb dX10_findOrder_40 (lv_at hl 4 rfl) ?_
              refine lv_if_eq (tgt := 65) hx hb dX10_findOrder_42 (by decide) (fun c45 => ?_) (fun c45 => ?_)
              · have dc45 : y34_4.toInt = 0 := eqC rfl (show (0 : Int32).toInt = 0 from rfl) c45
                refine lv_iconst (v := 0) hx hb dX10_findOrder_65 (by decide) ?_
                refine lv_istore (lv' := [(4, .int 0), (0, .ref (b 39)), (1, .int n), (2, .int sp), (3, .int y14_3), (5, .int y34_5)]) hx hb dX10_findOrder_66 hl (by decide) rfl (fun ls hl => ?_)
                have kc46 : (0 : Int32).toInt = 0 := rfl
                exact L68 0 _ _ _  hP hD hS (lv_sub hl [1, 2, 3, 4, 0, 5] rfl)
              · have dc45 : y34_4.toInt ≠ 0 := neC rfl (show (0 : Int32).toInt = 0 from rfl) c45
                refine lv_aload_n hx hb dX10_findOrder_45 rfl (lv_at hl 0 rfl) ?_
                refine va_get (D := (dC, dI)) (ci := 10) (v := .ref (b 32)) (C := RX10) (T := TX10) (N := 39) hx hb hts inX10 hown hK hP 0 rfl rfl 32 (by decide) lf74 (fun _ h9 => h9) rfl dX10_findOrder_46 ?_
                refine lv_iload hx hb dX10_findOrder_49 (lv_at hl 5 rfl) ?_
                have b47 : vp_in y34_5 8 := inC rfl (by omega) (by omega)
                refine va_iald hx hb hK hP 20 0 rfl rfl b47 dX10_findOrder_51 ?_
                have g48 : -1 ≤ (mord_u11 y34_5.toNatClampNeg).toInt ∧ (mord_u11 y34_5.toNatClampNeg).toInt ≤ 8 := rg_at rmord_u11 b47
                refine lv_aload_n hx hb dX10_findOrder_52 rfl (lv_at hl 0 rfl) ?_
                refine va_get (D := (dC, dI)) (ci := 10) (v := .ref (b 32)) (C := RX10) (T := TX10) (N := 39) hx hb hts inX10 hown hK hP 0 rfl rfl 32 (by decide) lf74 (fun _ h9 => h9) rfl dX10_findOrder_53 ?_
                refine lv_iload_n hx hb dX10_findOrder_56 rfl (lv_at hl 3 rfl) ?_
                have b49 : vp_in y14_3 8 := inC rfl (by omega) (by omega)
                refine va_iald hx hb hK hP 20 0 rfl rfl b49 dX10_findOrder_57 ?_
                have g50 : -1 ≤ (mord_u11 y14_3.toNatClampNeg).toInt ∧ (mord_u11 y14_3.toNatClampNeg).toInt ≤ 8 := rg_at rmord_u11 b49
                have o51 : (mord_u11 y14_3.toNatClampNeg).toInt = x8.toInt := by rw [emord_u11, pk_us]
                refine lv_icmp_eq (tgt := 65) hx hb dX10_findOrder_58 (by decide) (fun c52 => ?_) (fun c52 => ?_)
                · have dc52 : (mord_u11 y34_5.toNatClampNeg).toInt = (mord_u11 y14_3.toNatClampNeg).toInt := eqC rfl rfl c52
                  refine lv_iconst (v := 0) hx hb dX10_findOrder_65 (by decide) ?_
                  refine lv_istore (lv' := [(4, .int 0), (0, .ref (b 39)), (1, .int n), (2, .int sp), (3, .int y14_3), (5, .int y34_5)]) hx hb dX10_findOrder_66 hl (by decide) rfl (fun ls hl => ?_)
                  have kc53 : (0 : Int32).toInt = 0 := rfl
                  exact L68 0 _ _ _  hP hD hS (lv_sub hl [1, 2, 3, 4, 0, 5] rfl)
                · have dc52 : (mord_u11 y34_5.toNatClampNeg).toInt ≠ (mord_u11 y14_3.toNatClampNeg).toInt := neC rfl rfl c52
                  refine lv_iconst (v := 1) hx hb dX10_findOrder_61 (by decide) ?_
                  refine lv_goto (tgt := 66) hx hb dX10_findOrder_62 (by decide) ?_
                  refine lv_istore (lv' := [(4, .int 1), (0, .ref (b 39)), (1, .int n), (2, .int sp), (3, .int y14_3), (5, .int y34_5)]) hx hb dX10_findOrder_66 hl (by decide) rfl (fun ls hl => ?_)
                  have kc54 : (1 : Int32).toInt = 1 := rfl
                  exact L68 1 _ _ _  hP hD hS (lv_sub hl [1, 2, 3, 4, 0, 5] rfl)
        have kc55 : (1 : Int32).toInt = 1 := rfl
        have kc56 : (0 : Int32).toInt = 0 := rfl
        exact L34 _ 1 0 _ _ _ (by omega) (by omega) (Nat.lt_succ_self _) hP hD hS (lv_sub hl [2, 3, 4, 5, 1, 0] rfl)
  have kc57 : (0 : Int32).toInt = 0 := rfl
  have kc58 : ((-1) : Int32).toInt = -1 := rfl
  exact L14 _ 0 (-1) mord_u3 mbor _ _ _ rmord_u3 (by omega) (by omega) (by omega) (by (first | exact ok_init3 emord_u3 rfl rfl (by omega) | exact ok_down3 emord_u3 i14_3 rfl (by omega) (by omega) | exact ok_same3 emord_u3 i14_3 rfl (by omega) (by omega) (by omega) | exact ok_up3 emord_u3 (by assumption) i14_3 (by omega) rfl (by omega) (by omega) (by omega) (by omega) rfl (by omega) | exact ok_back3 emord_u3 (by assumption) i14_3 rfl (by omega) (by omega) (by omega) (by omega) (by omega))) (Nat.lt_succ_self _) hP hD hS (lv_sub hl [1, 2, 3, 0] rfl)
set_option maxHeartbeats 4000000 in
set_option maxRecDepth 100000 in
theorem k_X10_laid (l : Launch) (dC : Nat → ClassId) (dI : Nat → Nat → Nat) (cI cZ cQ : ClassId) (b : Nat → Nat) (mday : Int32) (mdoo : Int32) (mdA : Nat → Int32) (mdB : Nat → Int32) (mfar : Nat → Int32) (mmar : Nat → Int32) (mtel : Int32) (mgai : Int32) (mfal : Nat → Int32) (mtop : Nat → Int32) (mstr : Nat → Int32) (mgho : Nat → Int32) (mfai : Nat → Int32) (mpto : Nat → Int32) (mwal : Nat → Int32) (mahd : Nat → Int32) (mahf : Nat → Int32) (mcho : Nat → Int32) (mbes : Nat → Int32) (mbyt : Int32) (mtxt : Nat → Int32) (mpos : Int32) (mtka : Int32) (mtok : Int64) (mdig : Int32) (mnum : Int32) (mfau : Int32) (mrdm : Int32) (mrea : Nat → Int32) (mlin : Int32) (mlne : Nat → Int32) (mthg : Nat → Int32) (mord : Nat → Int32) (mbor : Nat → Int32) (mbsm : Int32) (mans : Nat → Int32) (mand : Nat → Int32) (manr : Nat → Int32) (mali : Nat → Int32) (sz : Nat) (row : Int64) (n : Int32) (i : Int32) (r_mday : 0 ≤ mday.toInt ∧ mday.toInt ≤ 400) (r_mdoo : 0 ≤ mdoo.toInt ∧ mdoo.toInt ≤ 14) (r_mdA : rg 14 (0) (7) mdA) (r_mdB : rg 14 (0) (7) mdB) (r_mmar : rg 24 (0) (255) mmar) (r_mgai : 0 ≤ mgai.toInt ∧ mgai.toInt ≤ 100) (r_mfal : rg 11 (0) (30) mfal) (r_mtop : rg 48 (-1) (23) mtop) (r_mstr : rg 48 (0) (100) mstr) (r_mgho : rg 48 (-1) (23) mgho) (r_mfai : rg 48 (0) (100) mfai) (r_mahd : rg 240 (0) (100) mahd) (r_mahf : rg 240 (0) (100) mahf) (r_mcho : rg 5 (-1) (9) mcho) (r_mbyt : 0 ≤ mbyt.toInt ∧ mbyt.toInt ≤ 160) (r_mpos : 0 ≤ mpos.toInt ∧ mpos.toInt ≤ 160) (r_mrdm : 0 ≤ mrdm.toInt ∧ mrdm.toInt ≤ 10) (r_mlin : 0 ≤ mlin.toInt ∧ mlin.toInt ≤ 10) (r_mthg : rg 8 (0) (31) mthg) (r_mord : rg 8 (-1) (8) mord) (r_mans : rg 4 (0) (12) mans) : KW l yX10_laid wsX10_laid { frames := 3, cells := 0, slots := 0, locals := 75 } (dC, dI) (TY cI cZ cQ) (wMod cI cZ cQ b mday mdoo mdA mdB mfar mmar mtel mgai mfal mtop mstr mgho mfai mpto mwal mahd mahf mcho mbes mbyt mtxt mpos mtka mtok mdig mnum mfau mrdm mrea mlin mlne mthg mord mbor mbsm mans mand manr mali) [.ref (b 39), .long row, .int n, .int i] sz 0 0 (fun (r : Int32) (u : US) => (rg 8 (0) (31) (u.1 0)) ∧ (rg 8 (-1) (8) (u.1 2))) (fun u : US => (wMod cI cZ cQ b mday mdoo mdA mdB mfar mmar mtel mgai mfal mtop mstr mgho mfai mpto mwal mahd mahf mcho mbes mbyt mtxt mpos mtka mtok mdig mnum mfau mrdm mrea mlin mlne (u.1 0) (u.1 2) (u.1 3) (u.1 1 0) mans mand manr mali)) := by
  refine Met.ofW (cc := cX10_laid) (maxL := 9) (ret := (some .int)) (by decide) rfl ?_
  intro p e s m args below meth c s₁ B hml hv
  obtain ⟨rfl, hsz, hP, hK, hD0, hN⟩ := hv
  have hx := B.exec
  have hb := B.bytes
  have hr := B.returns
  have hts := atoms_spec (ws := wsX10_laid) B.pre
  have hown : s.vm.findClass RX10 = some m.cls := findClass_of_methodNamed B.named
  have hlocks := B.notSynchronized
  have lf77 := hts (.fieldLink RX10 77 "PalaceOfRoomsModel" "bestOrder" "[I") (List.mem_cons_of_mem _ (List.mem_append_left _ (List.mem_append_left _ (List.mem_of_getElem? (i := 2) rfl))))
  have inX10 : ∀ w ∈ wsX100, w ∈ wsX10_laid := fun w h => List.mem_cons_of_mem _ (List.mem_append_right _ h)
  have lf225 := hts (.fieldLink RX10 225 "PalaceOfRoomsModel" "bestSum" "I") (List.mem_cons_of_mem _ (List.mem_append_left _ (List.mem_append_left _ (List.mem_of_getElem? (i := 1) rfl))))
  have lf71 := hts (.fieldLink RX10 71 "PalaceOfRoomsModel" "things" "[I") (List.mem_cons_of_mem _ (List.mem_append_left _ (List.mem_append_left _ (List.mem_of_getElem? (i := 0) rfl))))
  subst hsz
  have hD := hD0.self (sz := s.heap.size)
  generalize hAe : va_A (wMod cI cZ cQ b mday mdoo mdA mdB mfar mmar mtel mgai mfal mtop mstr mgho mfai mpto mwal mahd mahf mcho mbes mbyt mtxt mpos mtka mtok mdig mnum mfau mrdm mrea mlin mlne mthg mord mbor mbsm mans mand manr mali) s.heap.size = A at hD ⊢
  have hA : ∀ q : Nat, s.heap.size ≤ q → A q := fun q h => by rw [← hAe]; exact Or.inr h
  have hS : va_S A s.heap s.heap [] := va_S.rf
  have hl := lv_entry ([.ref (b 39), .long row, .int n, .int i]) (n := 9) (Nat.le_of_ble_eq_true rfl)
  rw [lg_entry_eq]
  generalize (lg_sl ([.ref (b 39), .long row, .int n, .int i]) ++ List.replicate (9 - (lg_sl ([.ref (b 39), .long row, .int n, .int i])).length) Slot.unset).toArray = ls at hl ⊢
  have hl : lv_has ls 9 [(0, .ref (b 39)), (1, .long row), (3, .int n), (4, .int i)] := hl
  refine lv_iload_n hx hb dX10_laid_0 rfl (lv_at hl 2 rfl) ?_
  refine lv_iconst (v := 1) hx hb dX10_laid_1 (by decide) ?_
  refine lv_bipush (v := 8) hx hb dX10_laid_2 (by decide) ?_
  refine rdS (As := [.int n, .int 1, .int 8]) (rest := []) ⟨hx, hb, hml, hown, hts⟩ (k_X10_in l dC dI cI cZ cQ n (1 : Int32) (8 : Int32)) (va_cwS 3 hts gX10_laid_X10_in rfl rfl rfl (by decide +kernel) ⟨Nat.le_of_ble_eq_true rfl, Nat.le_of_ble_eq_true rfl⟩) hP hK hN [] rfl rfl hl.1 rfl (Nat.le_of_ble_eq_true rfl) dX10_laid_4 ⟨Nat.le_of_ble_eq_true rfl, Nat.le_of_ble_eq_true rfl⟩ (fun r1 h2 => ?_)
  have h2 : ((((r1 = 1) ∧ ((1) ≤ n.toInt) ∧ (n.toInt ≤ (8))) ∨ ((r1 = 0) ∧ (n.toInt < (1) ∨ (8) < n.toInt)))) := h2
  rcases h2 with (⟨rfl, h2_a0, h2_a1⟩ | ⟨rfl, h2_a0⟩)
  · refine lv_if_ne (tgt := 13) hx hb dX10_laid_7 (by decide) (fun _ => ?_) (fun c9 => absurd c9 (by decide))
    refine lv_aload_n hx hb dX10_laid_13 rfl (lv_at hl 0 rfl) ?_
    refine lv_lload_n hx hb dX10_laid_14 rfl (lv_at hl 1 rfl) ?_
    refine lv_iload_n hx hb dX10_laid_15 rfl (lv_at hl 2 rfl) ?_
    refine wrV (As := [.long row, .int n]) (rest := []) (wr := []) (w2 := (fun u : US => (wMod cI cZ cQ b mday mdoo mdA mdB mfar mmar mtel mgai mfal mtop mstr mgho mfai mpto mwal mahd mahf mcho mbes mbyt mtxt mpos mtka mtok mdig mnum mfau mrdm mrea mlin mlne (u.1 0) mord mbor mbsm mans mand manr mali))) ⟨hx, hb, hml, hown, hts⟩ (k_X10_take l dC dI cI cZ cQ b mday mdoo mdA mdB mfar mmar mtel mgai mfal mtop mstr mgho mfai mpto mwal mahd mahf mcho mbes mbyt mtxt mpos mtka mtok mdig mnum mfau mrdm mrea mlin mlne mthg mord mbor mbsm mans mand manr mali _ row n r_mday r_mdoo r_mdA r_mdB r_mmar r_mgai r_mfal r_mtop r_mstr r_mgho r_mfai r_mahd r_mahf r_mcho r_mbyt r_mpos r_mrdm r_mlin r_mthg r_mord r_mans (by omega) (by omega)) (cwV 2 hts gX10_laid_X10_take rfl rfl rfl (by decide +kernel) ⟨Nat.le_of_ble_eq_true rfl, Nat.le_of_ble_eq_true rfl⟩) hP hD hS hA hK hN [0, 1, 2, 3, 4, 5, 6, 7, 8, 9, 10, 11, 12, 13, 14, 15, 16, 17, 18, 19, 20, 21, 22, 23, 24, 25] [] [0, 1, 2, 3, 4, 5, 6, 7, 8, 9, 10, 11, 12, 13, 14, 15, 16, 17, 18, 19, 20, 21, 22, 23, 24, 25] rfl rfl (by decide) (by decide) (by decide) (fun _ => rfl) (by decide) 0 10 rfl rfl rfl hl.1 rfl (Nat.le_of_ble_eq_true rfl) dX10_laid_16 ⟨Nat.le_of_ble_eq_true rfl, Nat.le_of_ble_eq_true rfl⟩ (fun r3 u5 H locs h4 hP hD hS => ?_)
    obtain ⟨mthg_c6, emthg_c6⟩ : ∃ f : Nat → Int32, f = (u5.1 0) := ⟨_, rfl⟩
    have hP : va_P (dC, dI) vwCl (wMod cI cZ cQ b mday mdoo mdA mdB mfar mmar mtel mgai mfal mtop mstr mgho mfai mpto mwal mahd mahf mcho mbes mbyt mtxt mpos mtka mtok mdig mnum mfau mrdm mrea mlin mlne mthg_c6 mord mbor mbsm mans mand manr mali) H := by rw [emthg_c6]; exact hP
    have hD : va_D A (wMod cI cZ cQ b mday mdoo mdA mdB mfar mmar mtel mgai mfal mtop mstr mgho mfai mpto mwal mahd mahf mcho mbes mbyt mtxt mpos mtka mtok mdig mnum mfau mrdm mrea mlin mlne mthg_c6 mord mbor mbsm mans mand manr mali) := by rw [emthg_c6]; exact hD
    have h4 : ((((r3 = 1) ∧ (∀ j : Nat, (j : Int) < n.toInt → (mthg_c6 j).toInt ≤ 23)) ∨ ((r3 = (-2))) ∨ ((r3 = (-3))))) ∧ (rg 8 (0) (31) mthg_c6) := by (try rw [emthg_c6]); exact h4
    rcases h4 with ⟨(⟨rfl, h4_a0⟩ | rfl | rfl), h4_0⟩
    · refine lv_istore (lv' := [(5, .int 1), (0, .ref (b 39)), (1, .long row), (3, .int n), (4, .int i)]) hx hb dX10_laid_19 hl (by decide) rfl (fun ls hl => ?_)
      refine lv_iload hx hb dX10_laid_21 (lv_at hl 0 rfl) ?_
      refine lv_iconst (v := 1) hx hb dX10_laid_23 (by decide) ?_
      refine lv_icmp_eq (tgt := 30) hx hb dX10_laid_24 (by decide) (fun _ => ?_) (fun c9 => absurd (by decide) c9)
      refine lv_iload hx hb dX10_laid_30 (lv_at hl 4 rfl) ?_
      refine lv_iconst (v := (-1)) hx hb dX10_laid_32 (by decide) ?_
      refine lv_icmp_ge (tgt := 39) hx hb dX10_laid_33 (by decide) (fun c7 => ?_) (fun c7 => ?_)
      · have dc7 : (-1) ≤ i.toInt := leC (show ((-1) : Int32).toInt = (-1) from rfl) rfl c7
        refine lv_iconst (v := 0) hx hb dX10_laid_39 (by decide) ?_
        refine lv_istore (lv' := [(6, .int 0), (5, .int 1), (0, .ref (b 39)), (1, .long row), (3, .int n), (4, .int i)]) hx hb dX10_laid_40 hl (by decide) rfl (fun ls hl => ?_)
        have L42 : ∀ (nn : Nat) (y42_6 : Int32) (mthg_42 : Nat → Int32) (H : Heap) (locs : List Loc) (ls : Array Slot), (rg 8 (0) (31) mthg_42) → (0 ≤ (y42_6.toInt)) → ((y42_6.toInt) ≤ 8) → (∀ j : Nat, (j : Int) < n.toInt → (mthg_42 j).toInt ≤ 23) → (8 - (y42_6.toInt)).toNat < nn → va_P (dC, dI) vwCl (wMod cI cZ cQ b mday mdoo mdA mdB mfar mmar mtel mgai mfal mtop mstr mgho mfai mpto mwal mahd mahf mcho mbes mbyt mtxt mpos mtka mtok mdig mnum mfau mrdm mrea mlin mlne mthg_42 mord mbor mbsm mans mand manr mali) H → va_D A (wMod cI cZ cQ b mday mdoo mdA mdB mfar mmar mtel mgai mfal mtop mstr mgho mfai mpto mwal mahd mahf mcho mbes mbyt mtxt mpos mtka mtok mdig mnum mfau mrdm mrea mlin mlne mthg_42 mord mbor mbsm mans mand manr mali) → va_S A s.heap H locs → lv_has ls 9 [(0, .ref (b 39)), (3, .int n), (4, .int i), (6, .int y42_6)] → W p l e (headSpec wsX10_laid { frames := 3, cells := 0, slots := 0, locals := 75 }).room s m ([.ref (b 39), .long row, .int n, .int i] : List Value).toArray below meth c H locs 0 0 (MQ below (va_Qi (fun (r : Int32) (u : US) => (rg 8 (0) (31) (u.1 0)) ∧ (rg 8 (-1) (8) (u.1 2))) (Bw (dC, dI) A (fun u : US => (wMod cI cZ cQ b mday mdoo mdA mdB mfar mmar mtel mgai mfal mtop mstr mgho mfai mpto mwal mahd mahf mcho mbes mbyt mtxt mpos mtka mtok mdig mnum mfau mrdm mrea mlin mlne (u.1 0) (u.1 2) (u.1 3) (u.1 1 0) mans mand manr mali))) A) ([.ref (b 39), .long row, .int n, .int i] : List Value).toArray s 0 0 A) (F0 m 42 ls []) := by
          intro nn
          induction nn with
          | zero =>
            intro y42_6 mthg_42 H locs ls r_mthg_42 i42_0 i42_1 i42_2 hm42
            exact absurd hm42 (Nat.not_lt_zero _)
          | succ nn ih42 =>
            intro y42_6 mthg_42 H locs ls r_mthg_42 i42_0 i42_1 i42_2 hm42 hP hD hS hl
            refine lv_iload hx hb dX10_laid_42 (lv_at hl 3 rfl) ?_
            refine lv_iload_n hx hb dX10_laid_44 rfl (lv_at hl 1 rfl) ?_
            refine lv_icmp_ge (tgt := 142) hx hb dX10_laid_45 (by decide) (fun c8 => ?_) (fun c8 => ?_)
            · have dc8 : n.toInt ≤ y42_6.toInt := leC rfl rfl c8
              refine lv_aload_n hx hb dX10_laid_142 rfl (lv_at hl 0 rfl) ?_
              refine lv_iload_n hx hb dX10_laid_143 rfl (lv_at hl 1 rfl) ?_
              refine lv_iconst (v := 1) hx hb dX10_laid_144 (by decide) ?_
              refine wvV (As := [.int n, .int 1]) (rest := []) (wr := []) (w2 := (fun u : US => (wMod cI cZ cQ b mday mdoo mdA mdB mfar mmar mtel mgai mfal mtop mstr mgho mfai mpto mwal mahd mahf mcho mbes mbyt mtxt mpos mtka mtok mdig mnum mfau mrdm mrea mlin mlne mthg_42 (u.1 1) (u.1 2) (u.1 0 0) mans mand manr mali))) ⟨hx, hb, hml, hown, hts⟩ (k_X10_findOrder l dC dI cI cZ cQ b mday mdoo mdA mdB mfar mmar mtel mgai mfal mtop mstr mgho mfai mpto mwal mahd mahf mcho mbes mbyt mtxt mpos mtka mtok mdig mnum mfau mrdm mrea mlin mlne mthg_42 mord mbor mbsm mans mand manr mali _ n (1 : Int32) r_mday r_mdoo r_mdA r_mdB r_mmar r_mgai r_mfal r_mtop r_mstr r_mgho r_mfai r_mahd r_mahf r_mcho r_mbyt r_mpos r_mrdm r_mlin r_mthg_42 r_mord r_mans (by omega) (by omega) (by assumption)) (cwV 2 hts gX10_laid_X10_findOrder rfl rfl rfl (by decide +kernel) ⟨Nat.le_of_ble_eq_true rfl, Nat.le_of_ble_eq_true rfl⟩) hP hD hS hA hK hN [0, 1, 2, 3, 4, 5, 6, 7, 8, 9, 10, 11, 12, 13, 14, 15, 16, 17, 18, 19, 20, 21, 22, 23, 24, 25] [] [0, 1, 2, 3, 4, 5, 6, 7, 8, 9, 10, 11, 12, 13, 14, 15, 16, 17, 18, 19, 20, 21, 22, 23, 24, 25] rfl rfl (by decide) (by decide) (by decide) (fun _ => rfl) (by decide) 0 10 rfl rfl rfl hl.1 rfl (Nat.le_of_ble_eq_true rfl) dX10_laid_145 ⟨Nat.le_of_ble_eq_true rfl, Nat.le_of_ble_eq_true rfl⟩ (fun u11 H locs h10 hP hD hS => ?_)
              obtain ⟨mbsm_c12, embsm_c12⟩ : ∃ f : Int32, f = (u11.1 0 0) := ⟨_, rfl⟩
              obtain ⟨mord_c13, emord_c13⟩ : ∃ f : Nat → Int32, f = (u11.1 1) := ⟨_, rfl⟩
              obtain ⟨mbor_c14, embor_c14⟩ : ∃ f : Nat → Int32, f = (u11.1 2) := ⟨_, rfl⟩
              have hP : va_P (dC, dI) vwCl (wMod cI cZ cQ b mday mdoo mdA mdB mfar mmar mtel mgai mfal mtop mstr mgho mfai mpto mwal mahd mahf mcho mbes mbyt mtxt mpos mtka mtok mdig mnum mfau mrdm mrea mlin mlne mthg_42 mord_c13 mbor_c14 mbsm_c12 mans mand manr mali) H := by rw [embsm_c12, emord_c13, embor_c14]; exact hP
              have hD : va_D A (wMod cI cZ cQ b mday mdoo mdA mdB mfar mmar mtel mgai mfal mtop mstr mgho mfai mpto mwal mahd mahf mcho mbes mbyt mtxt mpos mtka mtok mdig mnum mfau mrdm mrea mlin mlne mthg_42 mord_c13 mbor_c14 mbsm_c12 mans mand manr mali) := by rw [embsm_c12, emord_c13, embor_c14]; exact hD
              have h10 : (rg 8 (-1) (8) mord_c13) := by (try rw [embsm_c12]); (try rw [emord_c13]); (try rw [embor_c14]); exact h10
              have h10_0 := h10
              refine lv_iload hx hb dX10_laid_148 (lv_at hl 2 rfl) ?_
              refine lv_iconst (v := (-1)) hx hb dX10_laid_150 (by decide) ?_
              refine lv_icmp_ne (tgt := 161) hx hb dX10_laid_151 (by decide) (fun c15 => ?_) (fun c15 => ?_)
              · have dc15 : 0 ≤ i.toInt := ka_lo (by omega) (neC rfl (show ((-1) : Int32).toInt = (-1) from rfl) c15)
                refine lv_iload hx hb dX10_laid_161 (lv_at hl 2 rfl) ?_
                refine lv_iload_n hx hb dX10_laid_163 rfl (lv_at hl 1 rfl) ?_
                refine lv_icmp_ge (tgt := 177) hx hb dX10_laid_164 (by decide) (fun c16 => ?_) (fun c16 => ?_)
                · have dc16 : n.toInt ≤ i.toInt := leC rfl rfl c16
                  refine lv_iconst (v := (-1)) hx hb dX10_laid_177 (by decide) ?_
                  exact W.iret (v := (-1)) hx hb hr (fun tq ht hW => ⟨⟨(-1), (uS [mthg_42, (fun _ => mbsm_c12), mord_c13, mbor_c14] 0 (fun _ => 0)), rfl, ⟨r_mthg_42, h10_0⟩, by rw [ht]; exact hP, hD⟩, hS.F ht⟩) hS.2.2 dX10_laid_178
                · have dc16 : i.toInt < n.toInt := nleC rfl rfl c16
                  refine lv_aload_n hx hb dX10_laid_167 rfl (lv_at hl 0 rfl) ?_
                  refine va_get (D := (dC, dI)) (ci := 10) (v := .ref (b 33)) (C := RX10) (T := TX10) (N := 39) hx hb hts inX10 hown hK hP 0 rfl rfl 33 (by decide) lf77 (fun _ h9 => h9) rfl dX10_laid_168 ?_
                  refine lv_iload hx hb dX10_laid_171 (lv_at hl 2 rfl) ?_
                  have b17 : vp_in i 8 := inC rfl (by omega) (by omega)
                  refine va_iald hx hb hK hP 21 0 rfl rfl b17 dX10_laid_173 ?_
                  refine lv_goto (tgt := 178) hx hb dX10_laid_174 (by decide) ?_
                  exact W.iret (v := mbor_c14 i.toNatClampNeg) hx hb hr (fun tq ht hW => ⟨⟨mbor_c14 i.toNatClampNeg, (uS [mthg_42, (fun _ => mbsm_c12), mord_c13, mbor_c14] 0 (fun _ => 0)), rfl, ⟨r_mthg_42, h10_0⟩, by rw [ht]; exact hP, hD⟩, hS.F ht⟩) hS.2.2 dX10_laid_178
              · have dc15 : i.toInt = (-1) := eqC rfl (show ((-1) : Int32).toInt = (-1) from rfl) c15
                refine lv_aload_n hx hb dX10_laid_154 rfl (lv_at hl 0 rfl) ?_
                refine va_get (D := (dC, dI)) (ci := 10) (v := .int mbsm_c12) (C := RX10) (T := TX10) (N := 39) hx hb hts inX10 hown hK hP 0 rfl rfl 34 (by decide) lf225 (fun _ h9 => h9) rfl dX10_laid_155 ?_
                refine lv_goto (tgt := 178) hx hb dX10_laid_158 (by decide) ?_
                exact W.iret (v := mbsm_c12) hx hb hr (fun tq ht hW => ⟨⟨mbsm_c12, (uS [mthg_42, (fun _ => mbsm_c12), mord_c13, mbor_c14] 0 (fun _ => 0)), rfl, ⟨r_mthg_42, h10_0⟩, by rw [ht]; exact hP, hD⟩, hS.F ht⟩) hS.2.2 dX10_laid_178
            · have dc8 : y42_6.toInt < n.toInt := nleC rfl rfl c8
              refine lv_iload hx hb dX10_laid_48 (lv_at hl 3 rfl) ?_
              refine lv_iconst (v := 1) hx hb dX10_laid_50 (by decide) ?_
              refine lv_iadd hx hb dX10_laid_51 ?_
              have f18 : (y42_6 + 1).toInt = (y42_6.toInt) + (1) := addC rfl (show (1 : Int32).toInt = 1 from rfl) (by omega) (by omega)
              refine lv_topi (fun x19 ex19 => ?_)
              have ix19 : x19.toInt = (y42_6.toInt) + (1) := by rw [ex19]; exact f18
              refine lv_istore (lv' := [(7, .int x19), (0, .ref (b 39)), (3, .int n), (4, .int i), (6, .int y42_6)]) hx hb dX10_laid_52 hl (by decide) rfl (fun ls hl => ?_)
              have L54 : ∀ (nn : Nat) (y54_7 : Int32) (mthg_54 : Nat → Int32) (H : Heap) (locs : List Loc) (ls : Array Slot), (rg 8 (0) (31) mthg_54) → (1 ≤ (y54_7.toInt)) → ((y54_7.toInt) ≤ 8) → (∀ j : Nat, (j : Int) < n.toInt → (mthg_54 j).toInt ≤ 23) → (8 - (y54_7.toInt)).toNat < nn → va_P (dC, dI) vwCl (wMod cI cZ cQ b mday mdoo mdA mdB mfar mmar mtel mgai mfal mtop mstr mgho mfai mpto mwal mahd mahf mcho mbes mbyt mtxt mpos mtka mtok mdig mnum mfau mrdm mrea mlin mlne mthg_54 mord mbor mbsm mans mand manr mali) H → va_D A (wMod cI cZ cQ b mday mdoo mdA mdB mfar mmar mtel mgai mfal mtop mstr mgho mfai mpto mwal mahd mahf mcho mbes mbyt mtxt mpos mtka mtok mdig mnum mfau mrdm mrea mlin mlne mthg_54 mord mbor mbsm mans mand manr mali) → va_S A s.heap H locs → lv_has ls 9 [(0, .ref (b 39)), (3, .int n), (4, .int i), (6, .int y42_6), (7, .int y54_7)] → W p l e (headSpec wsX10_laid { frames := 3, cells := 0, slots := 0, locals := 75 }).room s m ([.ref (b 39), .long row, .int n, .int i] : List Value).toArray below meth c H locs 0 0 (MQ below (va_Qi (fun (r : Int32) (u : US) => (rg 8 (0) (31) (u.1 0)) ∧ (rg 8 (-1) (8) (u.1 2))) (Bw (dC, dI) A (fun u : US => (wMod cI cZ cQ b mday mdoo mdA mdB mfar mmar mtel mgai mfal mtop mstr mgho mfai mpto mwal mahd mahf mcho mbes mbyt mtxt mpos mtka mtok mdig mnum mfau mrdm mrea mlin mlne (u.1 0) (u.1 2) (u.1 3) (u.1 1 0) mans mand manr mali))) A) ([.ref (b 39), .long row, .int n, .int i] : List Value).toArray s 0 0 A) (F0 m 54 ls []) := by
                intro nn
                induction nn with
                | zero =>
                  intro y54_7 mthg_54 H locs ls r_mthg_54 i54_0 i54_1 i54_2 hm54
                  exact absurd hm54 (Nat.not_lt_zero _)
                | succ nn ih54 =>
                  intro y54_7 mthg_54 H locs ls r_mthg_54 i54_0 i54_1 i54_2 hm54 hP hD hS hl
                  refine lv_iload hx hb dX10_laid_54 (lv_at hl 4 rfl) ?_
                  refine lv_iload_n hx hb dX10_laid_56 rfl (lv_at hl 1 rfl) ?_
                  refine lv_icmp_ge (tgt := 136) hx hb dX10_laid_57 (by decide) (fun c20 => ?_) (fun c20 => ?_)
                  · have dc20 : n.toInt ≤ y54_7.toInt := leC rfl rfl c20
                    obtain ⟨z21, ez21⟩ : ∃ y : Int32, y = y42_6 + 1 := ⟨_, rfl⟩
                    have iz21 : z21.toInt = y42_6.toInt + 1 := by rw [ez21]; exact addC rfl rfl (by omega) (by omega)
                    refine lv_iinc (v := z21) (lv' := [(6, .int z21), (0, .ref (b 39)), (3, .int n), (4, .int i), (7, .int y54_7)]) hx hb dX10_laid_136 hl (k := 3) rfl (by rw [ez21]; rfl) (by decide) rfl (fun ls hl => ?_)
                    refine lv_goto (tgt := 42) hx hb dX10_laid_139 (by decide) ?_
                    exact ih42 z21 mthg_54 _ _ _ r_mthg_54 (by omega) (by omega) (by (first | assumption | exact th_two emthg_54 (by assumption) i54_2 (by omega) (by omega))) (by omega) hP hD hS (lv_sub hl [1, 2, 3, 0] rfl)
                  · have dc20 : y54_7.toInt < n.toInt := nleC rfl rfl c20
                    have wa := th_at i54_2 (y := y42_6) (rfl) (by omega) (by omega)
                    have wb := th_at i54_2 (y := y54_7) (rfl) (by omega) (by omega)
                    have L96 : ∀ (y96_8 : Int32) (H : Heap) (locs : List Loc) (ls : Array Slot), (0 ≤ (y96_8.toInt)) → ((y96_8.toInt) ≤ 23) → (((y96_8.toInt) = (mthg_54 y42_6.toNatClampNeg).toInt ∧ (y96_8.toInt) ≤ (mthg_54 y54_7.toNatClampNeg).toInt) ∨ ((y96_8.toInt) = (mthg_54 y54_7.toNatClampNeg).toInt ∧ (y96_8.toInt) ≤ (mthg_54 y42_6.toNatClampNeg).toInt)) → va_P (dC, dI) vwCl (wMod cI cZ cQ b mday mdoo mdA mdB mfar mmar mtel mgai mfal mtop mstr mgho mfai mpto mwal mahd mahf mcho mbes mbyt mtxt mpos mtka mtok mdig mnum mfau mrdm mrea mlin mlne mthg_54 mord mbor mbsm mans mand manr mali) H → va_D A (wMod cI cZ cQ b mday mdoo mdA mdB mfar mmar mtel mgai mfal mtop mstr mgho mfai mpto mwal mahd mahf mcho mbes mbyt mtxt mpos mtka mtok mdig mnum mfau mrdm mrea mlin mlne mthg_54 mord mbor mbsm mans mand manr mali) → va_S A s.heap H locs → lv_has ls 9 [(0, .ref (b 39)), (3, .int n), (4, .int i), (6, .int y42_6), (7, .int y54_7), (8, .int y96_8)] → W p l e (headSpec wsX10_laid { frames := 3, cells := 0, slots := 0, locals := 75 }).room s m ([.ref (b 39), .long row, .int n, .int i] : List Value).toArray below meth c H locs 0 0 (MQ below (va_Qi (fun (r : Int32) (u : US) => (rg 8 (0) (31) (u.1 0)) ∧ (rg 8 (-1) (8) (u.1 2))) (Bw (dC, dI) A (fun u : US => (wMod cI cZ cQ b mday mdoo mdA mdB mfar mmar mtel mgai mfal mtop mstr mgho mfai mpto mwal mahd mahf mcho mbes mbyt mtxt mpos mtka mtok mdig mnum mfau mrdm mrea mlin mlne (u.1 0) (u.1 2) (u.1 3) (u.1 1 0) mans mand manr mali))) A) ([.ref (b 39), .long row, .int n, .int i] : List Value).toArray s 0 0 A) (F0 m 96 ls []) := by
                      intro y96_8 H locs ls i96_0 i96_1 i96_2 hP hD hS hl
                      refine lv_aload_n hx hb dX10_laid_96 rfl (lv_at hl 0 rfl) ?_
                      refine va_get (D := (dC, dI)) (ci := 10) (v := .ref (b 31)) (C := RX10) (T := TX10) (N := 39) hx hb hts inX10 hown hK hP 0 rfl rfl 31 (by decide) lf71 (fun _ h9 => h9) rfl dX10_laid_97 ?_
                      refine lv_iload hx hb dX10_laid_100 (lv_at hl 4 rfl) ?_
                      refine lv_aload_n hx hb dX10_laid_102 rfl (lv_at hl 0 rfl) ?_
                      refine va_get (D := (dC, dI)) (ci := 10) (v := .ref (b 31)) (C := RX10) (T := TX10) (N := 39) hx hb hts inX10 hown hK hP 0 rfl rfl 31 (by decide) lf71 (fun _ h9 => h9) rfl dX10_laid_103 ?_
                      refine lv_iload hx hb dX10_laid_106 (lv_at hl 3 rfl) ?_
                      have b22 : vp_in y42_6 8 := inC rfl (by omega) (by omega)
                      refine va_iald hx hb hK hP 19 0 rfl rfl b22 dX10_laid_108 ?_
                      have g23 : 0 ≤ (mthg_54 y42_6.toNatClampNeg).toInt ∧ (mthg_54 y42_6.toNatClampNeg).toInt ≤ 31 := rg_at r_mthg_54 b22
                      refine lv_aload_n hx hb dX10_laid_109 rfl (lv_at hl 0 rfl) ?_
                      refine va_get (D := (dC, dI)) (ci := 10) (v := .ref (b 31)) (C := RX10) (T := TX10) (N := 39) hx hb hts inX10 hown hK hP 0 rfl rfl 31 (by decide) lf71 (fun _ h9 => h9) rfl dX10_laid_110 ?_
                      refine lv_iload hx hb dX10_laid_113 (lv_at hl 4 rfl) ?_
                      have b24 : vp_in y54_7 8 := inC rfl (by omega) (by omega)
                      refine va_iald hx hb hK hP 19 0 rfl rfl b24 dX10_laid_115 ?_
                      have g25 : 0 ≤ (mthg_54 y54_7.toNatClampNeg).toInt ∧ (mthg_54 y54_7.toNatClampNeg).toInt ≤ 31 := rg_at r_mthg_54 b24
                      refine lv_iadd hx hb dX10_laid_116 ?_
                      have f26 : ((mthg_54 y42_6.toNatClampNeg) + (mthg_54 y54_7.toNatClampNeg)).toInt = ((mthg_54 y42_6.toNatClampNeg).toInt) + ((mthg_54 y54_7.toNatClampNeg).toInt) := addC rfl rfl (by omega) (by omega)
                      refine lv_iload hx hb dX10_laid_117 (lv_at hl 5 rfl) ?_
                      refine lv_isub hx hb dX10_laid_119 ?_
                      have f27 : (((mthg_54 y42_6.toNatClampNeg) + (mthg_54 y54_7.toNatClampNeg)) - y96_8).toInt = (((mthg_54 y42_6.toNatClampNeg).toInt) + ((mthg_54 y54_7.toNatClampNeg).toInt)) - (y96_8.toInt) := subC f26 rfl (by omega) (by omega)
                      refine lv_topi (fun x28 ex28 => ?_)
                      have ix28 : x28.toInt = (((mthg_54 y42_6.toNatClampNeg).toInt) + ((mthg_54 y54_7.toNatClampNeg).toInt)) - (y96_8.toInt) := by rw [ex28]; exact f27
                      have b29 : vp_in y54_7 8 := inC rfl (by omega) (by omega)
                      have g30 : rg 8 (0) (31) (upd mthg_54 y54_7.toNatClampNeg x28) := rg_upd r_mthg_54 rfl (by omega) (by omega)
                      refine va_iast hx hb hK hP hD hS 19 0 rfl rfl b29 dX10_laid_120 (fun H locs hP hD hS => ?_)
                      obtain ⟨mthg_u31, emthg_u31⟩ : ∃ f : Nat → Int32, f = upd mthg_54 y54_7.toNatClampNeg x28 := ⟨_, rfl⟩
                      have rmthg_u31 : rg 8 (0) (31) mthg_u31 := by rw [emthg_u31]; exact g30
                      have hP : va_P (dC, dI) vwCl (wMod cI cZ cQ b mday mdoo mdA mdB mfar mmar mtel mgai mfal mtop mstr mgho mfai mpto mwal mahd mahf mcho mbes mbyt mtxt mpos mtka mtok mdig mnum mfau mrdm mrea mlin mlne mthg_u31 mord mbor mbsm mans mand manr mali) H := by rw [emthg_u31]; exact hP
                      have hD : va_D A (wMod cI cZ cQ b mday mdoo mdA mdB mfar mmar mtel mgai mfal mtop mstr mgho mfai mpto mwal mahd mahf mcho mbes mbyt mtxt mpos mtka mtok mdig mnum mfau mrdm mrea mlin mlne mthg_u31 mord mbor mbsm mans mand manr mali) := by rw [emthg_u31]; exact hD
                      refine lv_aload_n hx hb dX10_laid_121 rfl (lv_at hl 0 rfl) ?_
                      refine va_get (D := (dC, dI)) (ci := 10) (v := .ref (b 31)) (C := RX10) (T := TX10) (N := 39) hx hb hts inX10 hown hK hP 0 rfl rfl 31 (by decide) lf71 (fun _ h9 => h9) rfl dX10_laid_122 ?_
                      refine lv_iload hx hb dX10_laid_125 (lv_at hl 3 rfl) ?_
                      refine lv_iload hx hb dX10_laid_127 (lv_at hl 5 rfl) ?_
                      have b32 : vp_in y42_6 8 := inC rfl (by omega) (by omega)
                      have g33 : rg 8 (0) (31) (upd mthg_u31 y42_6.toNatClampNeg y96_8) := rg_upd rmthg_u31 rfl (by omega) (by omega)
                      refine va_iast hx hb hK hP hD hS 19 0 rfl rfl b32 dX10_laid_129 (fun H locs hP hD hS => ?_)
                      obtain ⟨mthg_u34, emthg_u34⟩ : ∃ f : Nat → Int32, f = upd mthg_u31 y42_6.toNatClampNeg y96_8 := ⟨_, rfl⟩
                      have rmthg_u34 : rg 8 (0) (31) mthg_u34 := by rw [emthg_u34]; exact g33
                      have hP : va_P (dC, dI) vwCl (wMod cI cZ cQ b mday mdoo mdA mdB mfar mmar mtel mgai mfal mtop mstr mgho mfai mpto mwal mahd mahf mcho mbes mbyt mtxt mpos mtka mtok mdig mnum mfau mrdm mrea mlin mlne mthg_u34 mord mbor mbsm mans mand manr mali) H := by rw [emthg_u34]; exact hP
                      have hD : va_D A (wMod cI cZ cQ b mday mdoo mdA mdB mfar mmar mtel mgai mfal mtop mstr mgho mfai mpto mwal mahd mahf mcho mbes mbyt mtxt mpos mtka mtok mdig mnum mfau mrdm mrea mlin mlne mthg_u34 mord mbor mbsm mans mand manr mali) := by rw [emthg_u34]; exact hD
                      obtain ⟨z35, ez35⟩ : ∃ y : Int32, y = y54_7 + 1 := ⟨_, rfl⟩
                      have iz35 : z35.toInt = y54_7.toInt + 1 := by rw [ez35]; exact addC rfl rfl (by omega) (by omega)
                      refine lv_iinc (v := z35) (lv' := [(7, .int z35), (0, .ref (b 39)), (3, .int n), (4, .int i), (6, .int y42_6), (8, .int y96_8)]) hx hb dX10_laid_130 hl (k := 4) rfl (by rw [ez35]; rfl) (by decide) rfl (fun ls hl => ?_)
                      refine lv_goto (tgt := 54) hx hb dX10_laid_133 (by decide) ?_
                      exact ih54 z35 mthg_u34 _ _ _ rmthg_u34 (by omega) (by omega) (by (first | exact th_two emthg_u34 (by assumption) i54_2 (by omega) (by omega) | assumption)) (by omega) hP hD hS (lv_sub hl [1, 2, 3, 4, 0] rfl)
                    refine lv_aload_n hx hb dX10_laid_60 rfl (lv_at hl 0 rfl) ?_
                    refine va_get (D := (dC, dI)) (ci := 10) (v := .ref (b 31)) (C := RX10) (T := TX10) (N := 39) hx hb hts inX10 hown hK hP 0 rfl rfl 31 (by decide) lf71 (fun _ h9 => h9) rfl dX10_laid_61 ?_
                    refine lv_iload hx hb dX10_laid_64 (lv_at hl 3 rfl) ?_
                    have b36 : vp_in y42_6 8 := inC rfl (by omega) (by omega)
                    refine va_iald hx hb hK hP 19 0 rfl rfl b36 dX10_laid_66 ?_
                    have g37 : 0 ≤ (mthg_54 y42_6.toNatClampNeg).toInt ∧ (mthg_54 y42_6.toNatClampNeg).toInt ≤ 31 := rg_at r_mthg_54 b36
                    refine lv_aload_n hx hb dX10_laid_67 rfl (lv_at hl 0 rfl) ?_
                    refine va_get (D := (dC, dI)) (ci := 10) (v := .ref (b 31)) (C := RX10) (T := TX10) (N := 39) hx hb hts inX10 hown hK hP 0 rfl rfl 31 (by decide) lf71 (fun _ h9 => h9) rfl dX10_laid_68 ?_
                    refine lv_iload hx hb dX10_laid_71 (lv_at hl 4 rfl) ?_
                    have b38 : vp_in y54_7 8 := inC rfl (by omega) (by omega)
                    refine va_iald hx hb hK hP 19 0 rfl rfl b38 dX10_laid_73 ?_
                    have g39 : 0 ≤ (mthg_54 y54_7.toNatClampNeg).toInt ∧ (mthg_54 y54_7.toNatClampNeg).toInt ≤ 31 := rg_at r_mthg_54 b38
                    refine lv_icmp_ge (tgt := 87) hx hb dX10_laid_74 (by decide) (fun c40 => ?_) (fun c40 => ?_)
                    · have dc40 : (mthg_54 y54_7.toNatClampNeg).toInt ≤ (mthg_54 y42_6.toNatClampNeg).toInt := leC rfl rfl c40
                      refine lv_aload_n hx hb dX10_laid_87 rfl (lv_at hl 0 rfl) ?_
                      refine va_get (D := (dC, dI)) (ci := 10) (v := .ref (b 31)) (C := RX10) (T := TX10) (N := 39) hx hb hts inX10 hown hK hP 0 rfl rfl 31 (by decide) lf71 (fun _ h9 => h9) rfl dX10_laid_88 ?_
                      refine lv_iload hx hb dX10_laid_91 (lv_at hl 4 rfl) ?_
                      have b41 : vp_in y54_7 8 := inC rfl (by omega) (by omega)
                      refine va_iald hx hb hK hP 19 0 rfl rfl b41 dX10_laid_93 ?_
                      have g42 : 0 ≤ (mthg_54 y54_7.toNatClampNeg).toInt ∧ (mthg_54 y54_7.toNatClampNeg).toInt ≤ 31 := rg_at r_mthg_54 b41
                      refine lv_topi (fun x43 ex43 => ?_)
                      have ix43 : x43.toInt = (mthg_54 y54_7.toNatClampNeg).toInt := by rw [ex43]
                      refine lv_istore (lv' := [(8, .int x43), (0, .ref (b 39)), (3, .int n), (4, .int i), (6, .int y42_6), (7, .int y54_7)]) hx hb dX10_laid_94 hl (by decide) rfl (fun ls hl => ?_)
                      exact L96 x43 _ _ _ (by omega) (by omega) (by omega) hP hD hS (lv_sub hl [1, 2, 3, 4, 5, 0] rfl)
                    · have dc40 : (mthg_54 y42_6.toNatClampNeg).toInt < (mthg_54 y54_7.toNatClampNeg).toInt := nleC rfl rfl c40
                      refine lv_aload_n hx hb dX10_laid_77 rfl (lv_at hl 0 rfl) ?_
                      refine va_get (D := (dC, dI)) (ci := 10) (v := .ref (b 31)) (C := RX10) (T := TX10) (N := 39) hx hb hts inX10 hown hK hP 0 rfl rfl 31 (by decide) lf71 (fun _ h9 => h9) rfl dX10_laid_78 ?_
                      refine lv_iload hx hb dX10_laid_81 (lv_at hl 3 rfl) ?_
                      have b44 : vp_in y42_6 8 := inC rfl (by omega) (by omega)
                      refine va_iald hx hb hK hP 19 0 rfl rfl b44 dX10_laid_83 ?_
                      have g45 : 0 ≤ (mthg_54 y42_6.toNatClampNeg).toInt ∧ (mthg_54 y42_6.toNatClampNeg).toInt ≤ 31 := rg_at r_mthg_54 b44
                      refine lv_goto (tgt := 94) hx hb dX10_laid_84 (by decide) ?_
                      refine lv_topi (fun x46 ex46 => ?_)
                      have ix46 : x46.toInt = (mthg_54 y42_6.toNatClampNeg).toInt := by rw [ex46]
                      refine lv_istore (lv' := [(8, .int x46), (0, .ref (b 39)), (3, .int n), (4, .int i), (6, .int y42_6), (7, .int y54_7)]) hx hb dX10_laid_94 hl (by decide) rfl (fun ls hl => ?_)
                      exact L96 x46 _ _ _ (by omega) (by omega) (by omega) hP hD hS (lv_sub hl [1, 2, 3, 4, 5, 0] rfl)
              exact L54 _ x19 mthg_42 _ _ _ r_mthg_42 (by omega) (by omega) (by (first | assumption | exact th_two emthg_42 (by assumption) i54_2 (by omega) (by omega))) (Nat.lt_succ_self _) hP hD hS (lv_sub hl [1, 2, 3, 4, 0] rfl)
        have kc47 : (0 : Int32).toInt = 0 := rfl
        exact L42 _ 0 mthg_c6 _ _ _ h4_0 (by omega) (by omega) (by (first | assumption | exact th_two emthg_c6 (by assumption) i54_2 (by omega) (by omega))) (Nat.lt_succ_self _) hP hD hS (lv_sub hl [2, 4, 5, 0] rfl)
      · have dc7 : i.toInt < (-1) := nleC (show ((-1) : Int32).toInt = (-1) from rfl) rfl c7
        refine lv_bipush (v := (-3)) hx hb dX10_laid_36 (by decide) ?_
        exact W.iret (v := (-3)) hx hb hr (fun tq ht hW => ⟨⟨(-3), (uS [mthg_c6, (fun _ => mbsm), mord, mbor] 0 (fun _ => 0)), rfl, ⟨h4_0, r_mord⟩, by rw [ht]; exact hP, hD⟩, hS.F ht⟩) hS.2.2 dX10_laid_38
    · refine lv_istore (lv' := [(5, .int (-2)), (0, .ref (b 39)), (1, .long row), (3, .int n), (4, .int i)]) hx hb dX10_laid_19 hl (by decide) rfl (fun ls hl => ?_)
      refine lv_iload hx hb dX10_laid_21 (lv_at hl 0 rfl) ?_
      refine lv_iconst (v := 1) hx hb dX10_laid_23 (by decide) ?_
      refine lv_icmp_eq (tgt := 30) hx hb dX10_laid_24 (by decide) (fun c9 => absurd c9 (by decide)) (fun _ => ?_)
      refine lv_iload hx hb dX10_laid_27 (lv_at hl 0 rfl) ?_
      exact W.iret (v := (-2)) hx hb hr (fun tq ht hW => ⟨⟨(-2), (uS [mthg_c6, (fun _ => mbsm), mord, mbor] 0 (fun _ => 0)), rfl, ⟨h4_0, r_mord⟩, by rw [ht]; exact hP, hD⟩, hS.F ht⟩) hS.2.2 dX10_laid_29
    · refine lv_istore (lv' := [(5, .int (-3)), (0, .ref (b 39)), (1, .long row), (3, .int n), (4, .int i)]) hx hb dX10_laid_19 hl (by decide) rfl (fun ls hl => ?_)
      refine lv_iload hx hb dX10_laid_21 (lv_at hl 0 rfl) ?_
      refine lv_iconst (v := 1) hx hb dX10_laid_23 (by decide) ?_
      refine lv_icmp_eq (tgt := 30) hx hb dX10_laid_24 (by decide) (fun c9 => absurd c9 (by decide)) (fun _ => ?_)
      refine lv_iload hx hb dX10_laid_27 (lv_at hl 0 rfl) ?_
      exact W.iret (v := (-3)) hx hb hr (fun tq ht hW => ⟨⟨(-3), (uS [mthg_c6, (fun _ => mbsm), mord, mbor] 0 (fun _ => 0)), rfl, ⟨h4_0, r_mord⟩, by rw [ht]; exact hP, hD⟩, hS.F ht⟩) hS.2.2 dX10_laid_29
  · refine lv_if_ne (tgt := 13) hx hb dX10_laid_7 (by decide) (fun c9 => absurd (by decide) c9) (fun _ => ?_)
    refine lv_bipush (v := (-3)) hx hb dX10_laid_10 (by decide) ?_
    exact W.iret (v := (-3)) hx hb hr (fun tq ht hW => ⟨⟨(-3), (uS [mthg, (fun _ => mbsm), mord, mbor] 0 (fun _ => 0)), rfl, ⟨r_mthg, r_mord⟩, by rw [ht]; exact hP, hD⟩, hS.F ht⟩) hS.2.2 dX10_laid_12
set_option maxHeartbeats 4000000 in
set_option maxRecDepth 100000 in
theorem k_X10_code (l : Launch) (dC : Nat → ClassId) (dI : Nat → Nat → Nat) (cI cZ cQ : ClassId) (b : Nat → Nat) (mday : Int32) (mdoo : Int32) (mdA : Nat → Int32) (mdB : Nat → Int32) (mfar : Nat → Int32) (mmar : Nat → Int32) (mtel : Int32) (mgai : Int32) (mfal : Nat → Int32) (mtop : Nat → Int32) (mstr : Nat → Int32) (mgho : Nat → Int32) (mfai : Nat → Int32) (mpto : Nat → Int32) (mwal : Nat → Int32) (mahd : Nat → Int32) (mahf : Nat → Int32) (mcho : Nat → Int32) (mbes : Nat → Int32) (mbyt : Int32) (mtxt : Nat → Int32) (mpos : Int32) (mtka : Int32) (mtok : Int64) (mdig : Int32) (mnum : Int32) (mfau : Int32) (mrdm : Int32) (mrea : Nat → Int32) (mlin : Int32) (mlne : Nat → Int32) (mthg : Nat → Int32) (mord : Nat → Int32) (mbor : Nat → Int32) (mbsm : Int32) (mans : Nat → Int32) (mand : Nat → Int32) (manr : Nat → Int32) (mali : Nat → Int32) (sz : Nat) (row : Int64) (n : Int32) (i : Int32) (r_mday : 0 ≤ mday.toInt ∧ mday.toInt ≤ 400) (r_mdoo : 0 ≤ mdoo.toInt ∧ mdoo.toInt ≤ 14) (r_mdA : rg 14 (0) (7) mdA) (r_mdB : rg 14 (0) (7) mdB) (r_mmar : rg 24 (0) (255) mmar) (r_mgai : 0 ≤ mgai.toInt ∧ mgai.toInt ≤ 100) (r_mfal : rg 11 (0) (30) mfal) (r_mtop : rg 48 (-1) (23) mtop) (r_mstr : rg 48 (0) (100) mstr) (r_mgho : rg 48 (-1) (23) mgho) (r_mfai : rg 48 (0) (100) mfai) (r_mahd : rg 240 (0) (100) mahd) (r_mahf : rg 240 (0) (100) mahf) (r_mcho : rg 5 (-1) (9) mcho) (r_mbyt : 0 ≤ mbyt.toInt ∧ mbyt.toInt ≤ 160) (r_mpos : 0 ≤ mpos.toInt ∧ mpos.toInt ≤ 160) (r_mrdm : 0 ≤ mrdm.toInt ∧ mrdm.toInt ≤ 10) (r_mlin : 0 ≤ mlin.toInt ∧ mlin.toInt ≤ 10) (r_mthg : rg 8 (0) (31) mthg) (r_mord : rg 8 (-1) (8) mord) (r_mans : rg 4 (0) (12) mans) : KW l yX10_code wsX10_code { frames := 3, cells := 0, slots := 0, locals := 75 } (dC, dI) (TY cI cZ cQ) (wMod cI cZ cQ b mday mdoo mdA mdB mfar mmar mtel mgai mfal mtop mstr mgho mfai mpto mwal mahd mahf mcho mbes mbyt mtxt mpos mtka mtok mdig mnum mfau mrdm mrea mlin mlne mthg mord mbor mbsm mans mand manr mali) [.ref (b 39), .long row, .int n, .int i] sz 0 0 (fun (r : Int32) (u : US) => (rg 8 (0) (31) (u.1 0)) ∧ (rg 8 (-1) (8) (u.1 2))) (fun u : US => (wMod cI cZ cQ b mday mdoo mdA mdB mfar mmar mtel mgai mfal mtop mstr mgho mfai mpto mwal mahd mahf mcho mbes mbyt mtxt mpos mtka mtok mdig mnum mfau mrdm mrea mlin mlne (u.1 0) (u.1 2) (u.1 3) (u.1 1 0) mans mand manr mali)) := by
  refine Met.ofW (cc := cX10_code) (maxL := 6) (ret := (some .int)) (by decide) rfl ?_
  intro p e s m args below meth c s₁ B hml hv
  obtain ⟨rfl, hsz, hP, hK, hD0, hN⟩ := hv
  have hx := B.exec
  have hb := B.bytes
  have hr := B.returns
  have hts := atoms_spec (ws := wsX10_code) B.pre
  have hown : s.vm.findClass RX10 = some m.cls := findClass_of_methodNamed B.named
  have hlocks := B.notSynchronized
  have lf77 := hts (.fieldLink RX10 77 "PalaceOfRoomsModel" "bestOrder" "[I") (List.mem_cons_of_mem _ (List.mem_append_left _ (List.mem_append_left _ (List.mem_of_getElem? (i := 1) rfl))))
  have inX10 : ∀ w ∈ wsX100, w ∈ wsX10_code := fun w h => List.mem_cons_of_mem _ (List.mem_append_right _ h)
  have lf225 := hts (.fieldLink RX10 225 "PalaceOfRoomsModel" "bestSum" "I") (List.mem_cons_of_mem _ (List.mem_append_left _ (List.mem_append_left _ (List.mem_of_getElem? (i := 0) rfl))))
  subst hsz
  have hD := hD0.self (sz := s.heap.size)
  generalize hAe : va_A (wMod cI cZ cQ b mday mdoo mdA mdB mfar mmar mtel mgai mfal mtop mstr mgho mfai mpto mwal mahd mahf mcho mbes mbyt mtxt mpos mtka mtok mdig mnum mfau mrdm mrea mlin mlne mthg mord mbor mbsm mans mand manr mali) s.heap.size = A at hD ⊢
  have hA : ∀ q : Nat, s.heap.size ≤ q → A q := fun q h => by rw [← hAe]; exact Or.inr h
  have hS : va_S A s.heap s.heap [] := va_S.rf
  have hl := lv_entry ([.ref (b 39), .long row, .int n, .int i]) (n := 6) (Nat.le_of_ble_eq_true rfl)
  rw [lg_entry_eq]
  generalize (lg_sl ([.ref (b 39), .long row, .int n, .int i]) ++ List.replicate (6 - (lg_sl ([.ref (b 39), .long row, .int n, .int i])).length) Slot.unset).toArray = ls at hl ⊢
  have hl : lv_has ls 6 [(0, .ref (b 39)), (1, .long row), (3, .int n), (4, .int i)] := hl
  refine lv_iload_n hx hb dX10_code_0 rfl (lv_at hl 2 rfl) ?_
  refine lv_iconst (v := 2) hx hb dX10_code_1 (by decide) ?_
  refine lv_bipush (v := 6) hx hb dX10_code_2 (by decide) ?_
  refine rdS (As := [.int n, .int 2, .int 6]) (rest := []) ⟨hx, hb, hml, hown, hts⟩ (k_X10_in l dC dI cI cZ cQ n (2 : Int32) (6 : Int32)) (va_cwS 3 hts gX10_code_X10_in rfl rfl rfl (by decide +kernel) ⟨Nat.le_of_ble_eq_true rfl, Nat.le_of_ble_eq_true rfl⟩) hP hK hN [] rfl rfl hl.1 rfl (Nat.le_of_ble_eq_true rfl) dX10_code_4 ⟨Nat.le_of_ble_eq_true rfl, Nat.le_of_ble_eq_true rfl⟩ (fun r1 h2 => ?_)
  have h2 : ((((r1 = 1) ∧ ((2) ≤ n.toInt) ∧ (n.toInt ≤ (6))) ∨ ((r1 = 0) ∧ (n.toInt < (2) ∨ (6) < n.toInt)))) := h2
  rcases h2 with (⟨rfl, h2_a0, h2_a1⟩ | ⟨rfl, h2_a0⟩)
  · refine lv_if_ne (tgt := 13) hx hb dX10_code_7 (by decide) (fun _ => ?_) (fun c9 => absurd c9 (by decide))
    refine lv_aload_n hx hb dX10_code_13 rfl (lv_at hl 0 rfl) ?_
    refine lv_lload_n hx hb dX10_code_14 rfl (lv_at hl 1 rfl) ?_
    refine lv_iload_n hx hb dX10_code_15 rfl (lv_at hl 2 rfl) ?_
    refine wrV (As := [.long row, .int n]) (rest := []) (wr := []) (w2 := (fun u : US => (wMod cI cZ cQ b mday mdoo mdA mdB mfar mmar mtel mgai mfal mtop mstr mgho mfai mpto mwal mahd mahf mcho mbes mbyt mtxt mpos mtka mtok mdig mnum mfau mrdm mrea mlin mlne (u.1 0) mord mbor mbsm mans mand manr mali))) ⟨hx, hb, hml, hown, hts⟩ (k_X10_take l dC dI cI cZ cQ b mday mdoo mdA mdB mfar mmar mtel mgai mfal mtop mstr mgho mfai mpto mwal mahd mahf mcho mbes mbyt mtxt mpos mtka mtok mdig mnum mfau mrdm mrea mlin mlne mthg mord mbor mbsm mans mand manr mali _ row n r_mday r_mdoo r_mdA r_mdB r_mmar r_mgai r_mfal r_mtop r_mstr r_mgho r_mfai r_mahd r_mahf r_mcho r_mbyt r_mpos r_mrdm r_mlin r_mthg r_mord r_mans (by omega) (by omega)) (cwV 2 hts gX10_code_X10_take rfl rfl rfl (by decide +kernel) ⟨Nat.le_of_ble_eq_true rfl, Nat.le_of_ble_eq_true rfl⟩) hP hD hS hA hK hN [0, 1, 2, 3, 4, 5, 6, 7, 8, 9, 10, 11, 12, 13, 14, 15, 16, 17, 18, 19, 20, 21, 22, 23, 24, 25] [] [0, 1, 2, 3, 4, 5, 6, 7, 8, 9, 10, 11, 12, 13, 14, 15, 16, 17, 18, 19, 20, 21, 22, 23, 24, 25] rfl rfl (by decide) (by decide) (by decide) (fun _ => rfl) (by decide) 0 10 rfl rfl rfl hl.1 rfl (Nat.le_of_ble_eq_true rfl) dX10_code_16 ⟨Nat.le_of_ble_eq_true rfl, Nat.le_of_ble_eq_true rfl⟩ (fun r3 u5 H locs h4 hP hD hS => ?_)
    obtain ⟨mthg_c6, emthg_c6⟩ : ∃ f : Nat → Int32, f = (u5.1 0) := ⟨_, rfl⟩
    have hP : va_P (dC, dI) vwCl (wMod cI cZ cQ b mday mdoo mdA mdB mfar mmar mtel mgai mfal mtop mstr mgho mfai mpto mwal mahd mahf mcho mbes mbyt mtxt mpos mtka mtok mdig mnum mfau mrdm mrea mlin mlne mthg_c6 mord mbor mbsm mans mand manr mali) H := by rw [emthg_c6]; exact hP
    have hD : va_D A (wMod cI cZ cQ b mday mdoo mdA mdB mfar mmar mtel mgai mfal mtop mstr mgho mfai mpto mwal mahd mahf mcho mbes mbyt mtxt mpos mtka mtok mdig mnum mfau mrdm mrea mlin mlne mthg_c6 mord mbor mbsm mans mand manr mali) := by rw [emthg_c6]; exact hD
    have h4 : ((((r3 = 1) ∧ (∀ j : Nat, (j : Int) < n.toInt → (mthg_c6 j).toInt ≤ 23)) ∨ ((r3 = (-2))) ∨ ((r3 = (-3))))) ∧ (rg 8 (0) (31) mthg_c6) := by (try rw [emthg_c6]); exact h4
    rcases h4 with ⟨(⟨rfl, h4_a0⟩ | rfl | rfl), h4_0⟩
    · refine lv_istore (lv' := [(5, .int 1), (0, .ref (b 39)), (1, .long row), (3, .int n), (4, .int i)]) hx hb dX10_code_19 hl (by decide) rfl (fun ls hl => ?_)
      refine lv_iload hx hb dX10_code_21 (lv_at hl 0 rfl) ?_
      refine lv_iconst (v := 1) hx hb dX10_code_23 (by decide) ?_
      refine lv_icmp_eq (tgt := 30) hx hb dX10_code_24 (by decide) (fun _ => ?_) (fun c9 => absurd (by decide) c9)
      refine lv_iload hx hb dX10_code_30 (lv_at hl 4 rfl) ?_
      refine lv_iconst (v := (-1)) hx hb dX10_code_32 (by decide) ?_
      refine lv_icmp_ge (tgt := 39) hx hb dX10_code_33 (by decide) (fun c7 => ?_) (fun c7 => ?_)
      · have dc7 : (-1) ≤ i.toInt := leC (show ((-1) : Int32).toInt = (-1) from rfl) rfl c7
        refine lv_aload_n hx hb dX10_code_39 rfl (lv_at hl 1 rfl) ?_
        refine lv_iload_n hx hb dX10_code_40 rfl (lv_at hl 3 rfl) ?_
        refine lv_iconst (v := 0) hx hb dX10_code_41 (by decide) ?_
        refine wvV (As := [.int n, .int 0]) (rest := []) (wr := []) (w2 := (fun u : US => (wMod cI cZ cQ b mday mdoo mdA mdB mfar mmar mtel mgai mfal mtop mstr mgho mfai mpto mwal mahd mahf mcho mbes mbyt mtxt mpos mtka mtok mdig mnum mfau mrdm mrea mlin mlne mthg_c6 (u.1 1) (u.1 2) (u.1 0 0) mans mand manr mali))) ⟨hx, hb, hml, hown, hts⟩ (k_X10_findOrder l dC dI cI cZ cQ b mday mdoo mdA mdB mfar mmar mtel mgai mfal mtop mstr mgho mfai mpto mwal mahd mahf mcho mbes mbyt mtxt mpos mtka mtok mdig mnum mfau mrdm mrea mlin mlne mthg_c6 mord mbor mbsm mans mand manr mali _ n (0 : Int32) r_mday r_mdoo r_mdA r_mdB r_mmar r_mgai r_mfal r_mtop r_mstr r_mgho r_mfai r_mahd r_mahf r_mcho r_mbyt r_mpos r_mrdm r_mlin h4_0 r_mord r_mans (by omega) (by omega) (by assumption)) (cwV 2 hts gX10_code_X10_findOrder rfl rfl rfl (by decide +kernel) ⟨Nat.le_of_ble_eq_true rfl, Nat.le_of_ble_eq_true rfl⟩) hP hD hS hA hK hN [0, 1, 2, 3, 4, 5, 6, 7, 8, 9, 10, 11, 12, 13, 14, 15, 16, 17, 18, 19, 20, 21, 22, 23, 24, 25] [] [0, 1, 2, 3, 4, 5, 6, 7, 8, 9, 10, 11, 12, 13, 14, 15, 16, 17, 18, 19, 20, 21, 22, 23, 24, 25] rfl rfl (by decide) (by decide) (by decide) (fun _ => rfl) (by decide) 0 10 rfl rfl rfl hl.1 rfl (Nat.le_of_ble_eq_true rfl) dX10_code_42 ⟨Nat.le_of_ble_eq_true rfl, Nat.le_of_ble_eq_true rfl⟩ (fun u10 H locs h9 hP hD hS => ?_)
        obtain ⟨mbsm_c11, embsm_c11⟩ : ∃ f : Int32, f = (u10.1 0 0) := ⟨_, rfl⟩
        obtain ⟨mord_c12, emord_c12⟩ : ∃ f : Nat → Int32, f = (u10.1 1) := ⟨_, rfl⟩
        obtain ⟨mbor_c13, embor_c13⟩ : ∃ f : Nat → Int32, f = (u10.1 2) := ⟨_, rfl⟩
        have hP : va_P (dC, dI) vwCl (wMod cI cZ cQ b mday mdoo mdA mdB mfar mmar mtel mgai mfal mtop mstr mgho mfai mpto mwal mahd mahf mcho mbes mbyt mtxt mpos mtka mtok mdig mnum mfau mrdm mrea mlin mlne mthg_c6 mord_c12 mbor_c13 mbsm_c11 mans mand manr mali) H := by rw [embsm_c11, emord_c12, embor_c13]; exact hP
        have hD : va_D A (wMod cI cZ cQ b mday mdoo mdA mdB mfar mmar mtel mgai mfal mtop mstr mgho mfai mpto mwal mahd mahf mcho mbes mbyt mtxt mpos mtka mtok mdig mnum mfau mrdm mrea mlin mlne mthg_c6 mord_c12 mbor_c13 mbsm_c11 mans mand manr mali) := by rw [embsm_c11, emord_c12, embor_c13]; exact hD
        have h9 : (rg 8 (-1) (8) mord_c12) := by (try rw [embsm_c11]); (try rw [emord_c12]); (try rw [embor_c13]); exact h9
        have h9_0 := h9
        refine lv_iload hx hb dX10_code_45 (lv_at hl 4 rfl) ?_
        refine lv_iconst (v := (-1)) hx hb dX10_code_47 (by decide) ?_
        refine lv_icmp_ne (tgt := 58) hx hb dX10_code_48 (by decide) (fun c14 => ?_) (fun c14 => ?_)
        · have dc14 : 0 ≤ i.toInt := ka_lo (by omega) (neC rfl (show ((-1) : Int32).toInt = (-1) from rfl) c14)
          refine lv_iload hx hb dX10_code_58 (lv_at hl 4 rfl) ?_
          refine lv_iload_n hx hb dX10_code_60 rfl (lv_at hl 3 rfl) ?_
          refine lv_icmp_ge (tgt := 74) hx hb dX10_code_61 (by decide) (fun c15 => ?_) (fun c15 => ?_)
          · have dc15 : n.toInt ≤ i.toInt := leC rfl rfl c15
            refine lv_iconst (v := (-1)) hx hb dX10_code_74 (by decide) ?_
            exact W.iret (v := (-1)) hx hb hr (fun tq ht hW => ⟨⟨(-1), (uS [mthg_c6, (fun _ => mbsm_c11), mord_c12, mbor_c13] 0 (fun _ => 0)), rfl, ⟨h4_0, h9_0⟩, by rw [ht]; exact hP, hD⟩, hS.F ht⟩) hS.2.2 dX10_code_75
          · have dc15 : i.toInt < n.toInt := nleC rfl rfl c15
            refine lv_aload_n hx hb dX10_code_64 rfl (lv_at hl 1 rfl) ?_
            refine va_get (D := (dC, dI)) (ci := 10) (v := .ref (b 33)) (C := RX10) (T := TX10) (N := 39) hx hb hts inX10 hown hK hP 0 rfl rfl 33 (by decide) lf77 (fun _ h9 => h9) rfl dX10_code_65 ?_
            refine lv_iload hx hb dX10_code_68 (lv_at hl 4 rfl) ?_
            have b16 : vp_in i 8 := inC rfl (by omega) (by omega)
            refine va_iald hx hb hK hP 21 0 rfl rfl b16 dX10_code_70 ?_
            refine lv_goto (tgt := 75) hx hb dX10_code_71 (by decide) ?_
            exact W.iret (v := mbor_c13 i.toNatClampNeg) hx hb hr (fun tq ht hW => ⟨⟨mbor_c13 i.toNatClampNeg, (uS [mthg_c6, (fun _ => mbsm_c11), mord_c12, mbor_c13] 0 (fun _ => 0)), rfl, ⟨h4_0, h9_0⟩, by rw [ht]; exact hP, hD⟩, hS.F ht⟩) hS.2.2 dX10_code_75
        · have dc14 : i.toInt = (-1) := eqC rfl (show ((-1) : Int32).toInt = (-1) from rfl) c14
          refine lv_aload_n hx hb dX10_code_51 rfl (lv_at hl 1 rfl) ?_
          refine va_get (D := (dC, dI)) (ci := 10) (v := .int mbsm_c11) (C := RX10) (T := TX10) (N := 39) hx hb hts inX10 hown hK hP 0 rfl rfl 34 (by decide) lf225 (fun _ h9 => h9) rfl dX10_code_52 ?_
          refine lv_goto (tgt := 75) hx hb dX10_code_55 (by decide) ?_
          exact W.iret (v := mbsm_c11) hx hb hr (fun tq ht hW => ⟨⟨mbsm_c11, (uS [mthg_c6, (fun _ => mbsm_c11), mord_c12, mbor_c13] 0 (fun _ => 0)), rfl, ⟨h4_0, h9_0⟩, by rw [ht]; exact hP, hD⟩, hS.F ht⟩) hS.2.2 dX10_code_75
      · have dc7 : i.toInt < (-1) := nleC (show ((-1) : Int32).toInt = (-1) from rfl) rfl c7
        refine lv_bipush (v := (-3)) hx hb dX10_code_36 (by decide) ?_
        exact W.iret (v := (-3)) hx hb hr (fun tq ht hW => ⟨⟨(-3), (uS [mthg_c6, (fun _ => mbsm), mord, mbor] 0 (fun _ => 0)), rfl, ⟨h4_0, r_mord⟩, by rw [ht]; exact hP, hD⟩, hS.F ht⟩) hS.2.2 dX10_code_38
    · refine lv_istore (lv' := [(5, .int (-2)), (0, .ref (b 39)), (1, .long row), (3, .int n), (4, .int i)]) hx hb dX10_code_19 hl (by decide) rfl (fun ls hl => ?_)
      refine lv_iload hx hb dX10_code_21 (lv_at hl 0 rfl) ?_
      refine lv_iconst (v := 1) hx hb dX10_code_23 (by decide) ?_
      refine lv_icmp_eq (tgt := 30) hx hb dX10_code_24 (by decide) (fun c9 => absurd c9 (by decide)) (fun _ => ?_)
      refine lv_iload hx hb dX10_code_27 (lv_at hl 0 rfl) ?_
      exact W.iret (v := (-2)) hx hb hr (fun tq ht hW => ⟨⟨(-2), (uS [mthg_c6, (fun _ => mbsm), mord, mbor] 0 (fun _ => 0)), rfl, ⟨h4_0, r_mord⟩, by rw [ht]; exact hP, hD⟩, hS.F ht⟩) hS.2.2 dX10_code_29
    · refine lv_istore (lv' := [(5, .int (-3)), (0, .ref (b 39)), (1, .long row), (3, .int n), (4, .int i)]) hx hb dX10_code_19 hl (by decide) rfl (fun ls hl => ?_)
      refine lv_iload hx hb dX10_code_21 (lv_at hl 0 rfl) ?_
      refine lv_iconst (v := 1) hx hb dX10_code_23 (by decide) ?_
      refine lv_icmp_eq (tgt := 30) hx hb dX10_code_24 (by decide) (fun c9 => absurd c9 (by decide)) (fun _ => ?_)
      refine lv_iload hx hb dX10_code_27 (lv_at hl 0 rfl) ?_
      exact W.iret (v := (-3)) hx hb hr (fun tq ht hW => ⟨⟨(-3), (uS [mthg_c6, (fun _ => mbsm), mord, mbor] 0 (fun _ => 0)), rfl, ⟨h4_0, r_mord⟩, by rw [ht]; exact hP, hD⟩, hS.F ht⟩) hS.2.2 dX10_code_29
  · refine lv_if_ne (tgt := 13) hx hb dX10_code_7 (by decide) (fun c9 => absurd (by decide) c9) (fun _ => ?_)
    refine lv_bipush (v := (-3)) hx hb dX10_code_10 (by decide) ?_
    exact W.iret (v := (-3)) hx hb hr (fun tq ht hW => ⟨⟨(-3), (uS [mthg, (fun _ => mbsm), mord, mbor] 0 (fun _ => 0)), rfl, ⟨r_mthg, r_mord⟩, by rw [ht]; exact hP, hD⟩, hS.F ht⟩) hS.2.2 dX10_code_12
end
section
-- ===== Strings of the class's own constants, carried =====
def SC (k v N : Nat) (f : Nat → Int32) (A : Nat → Prop) (U : State) (H : Heap) : Prop := va_O "java/lang/String" k A U H ∧ va_OF "java/lang/String" "coder" "B" (.int 0) k A U H ∧ va_OF "java/lang/String" "value" "[B" (.ref v) k A U H ∧ va_T .byte v N (fun j => .int (f j)) A U H ∧ va_Z "java/lang/String" "COMPACT_STRINGS" "Z" (.int 1) A U H ∧ va_Zq "jdk/internal/util/Preconditions" "SIOOBE_FORMATTER" "Ljava/util/function/BiFunction;" A U H
theorem SC.moved {k v N : Nat} {f : Nat → Int32} {A : Nat → Prop} {u U : State} {H : Heap} (hvm : u.vm.Alike U.vm) (h : SC k v N f A u H) : SC k v N f A U H := ⟨va_O.moved hvm h.1, va_OF.moved hvm h.2.1, va_OF.moved hvm h.2.2.1, va_T.moved hvm h.2.2.2.1, va_Z.moved hvm h.2.2.2.2.1, va_Zq.moved hvm h.2.2.2.2.2⟩
theorem SC.kept {k v N : Nat} {f : Nat → Int32} {A : Nat → Prop} {U : State} {H H1 : Heap} (h : SC k v N f A U H) (hq : ∀ a : Nat, a < H.size → ¬ A a → H1[a]? = H[a]?) : SC k v N f A U H1 := ⟨h.1.kept hq, h.2.1.kept hq, h.2.2.1.kept hq, h.2.2.2.1.kept hq, h.2.2.2.2.1.kept hq, h.2.2.2.2.2.kept hq⟩
theorem SC.narrow {k v N : Nat} {f : Nat → Int32} {A B : Nat → Prop} {U : State} {H : Heap} (h : SC k v N f A U H) (hAB : ∀ q, B q → A q) : SC k v N f B U H := ⟨h.1.narrow hAB, h.2.1.narrow hAB, h.2.2.1.narrow hAB, h.2.2.2.1.narrow hAB, h.2.2.2.2.1.narrow hAB, h.2.2.2.2.2.narrow hAB⟩
def NoA : Nat → Prop := fun _ => False
def lenS : List Nat := [4, 5, 5, 4, 5]
def bytS : List (List Int32) := [[114, 111, 111, 109], [97, 103, 97, 105, 110], [97, 112, 97, 114, 116], [119, 97, 108, 107], [101, 118, 101, 114, 121]]
def fS (i j : Nat) : Int32 := (bytS.getD i []).getD j 0
def SR (ak : Nat → Nat) (U : State) : Prop := vk_R RX7 42 "room" (ak 0) U ∧ vk_R RX7 51 "again" (ak 1) U ∧ vk_R RX7 59 "apart" (ak 2) U ∧ vk_R RX7 63 "walk" (ak 3) U ∧ vk_R RX7 71 "every" (ak 4) U
def SV (ak av : Nat → Nat) (A : Nat → Prop) (U : State) (H : Heap) : Prop := (∀ i, i < 5 → SC (ak i) (av i) (lenS.getD i 0) (fS i) A U H) ∧ SR ak U
theorem SR.warm {ak : Nat → Nat} {s U : State} (hW : s.WarmedH U.vm) (h : SR ak s) : SR ak U := ⟨h.1.warm hW, h.2.1.warm hW, h.2.2.1.warm hW, h.2.2.2.1.warm hW, h.2.2.2.2.warm hW⟩
theorem SR.same {ak : Nat → Nat} {u U : State} (hv : U.vm = u.vm) (h : SR ak u) : SR ak U := ⟨h.1.same hv, h.2.1.same hv, h.2.2.1.same hv, h.2.2.2.1.same hv, h.2.2.2.2.same hv⟩
theorem SV.kept {ak av : Nat → Nat} {A : Nat → Prop} {U : State} {H H1 : Heap} (h : SV ak av A U H) (hq : ∀ a : Nat, a < H.size → ¬ A a → H1[a]? = H[a]?) : SV ak av A U H1 := ⟨fun i hi => (h.1 i hi).kept hq, h.2⟩
theorem SV.narrow {ak av : Nat → Nat} {A B : Nat → Prop} {U : State} {H : Heap} (h : SV ak av A U H) (hAB : ∀ q, B q → A q) : SV ak av B U H := ⟨fun i hi => (h.1 i hi).narrow hAB, h.2⟩
theorem SV.warm {ak av : Nat → Nat} {A : Nat → Prop} {s U : State} {H : Heap} (hW : s.WarmedH U.vm) (h : SV ak av A s H) : SV ak av A U H := ⟨fun i hi => (h.1 i hi).moved hW.alike, h.2.warm hW⟩
-- contracts: a String's own reader; a reader of ours given a String; writers of ours that load Strings
def PcS (k v N : Nat) (f : Nat → Int32) (as : List Value) : Array Value → State → Prop := va_Pc as (fun U => SC k v N f NoA U U.heap)
abbrev KS (l : Launch) (y : MethodName) (ws : List Cond) (rm : Room) (k v N : Nat) (f : Nat → Int32) (as : List Value) (post : Int32 → Prop) : Prop := Met l y ws rm (PcS k v N f as) (QR post) 0 0 (fun _ => False)
def PcRS (D : va_G) (tys : List (ClassId × FieldType)) (wc : va_W) (k v N : Nat) (f : Nat → Int32) (as : List Value) : Array Value → State → Prop := va_Pc as (fun U => va_P D vwCl wc U.heap ∧ va_K D vwCl tys U ∧ NW U ∧ SC k v N f NoA U U.heap)
abbrev KRS (l : Launch) (y : MethodName) (ws : List Cond) (rm : Room) (D : va_G) (tys : List (ClassId × FieldType)) (wc : va_W) (k v N : Nat) (f : Nat → Int32) (as : List Value) (post : Int32 → Prop) : Prop := Met l y ws rm (PcRS D tys wc k v N f as) (QR post) 0 0 (fun _ => False)
def PcWS (D : va_G) (tys : List (ClassId × FieldType)) (wc : va_W) (ak av : Nat → Nat) (as : List Value) (sz : Nat) : Array Value → State → Prop := va_Pc as (fun U => U.heap.size = sz ∧ va_P D vwCl wc U.heap ∧ va_K D vwCl tys U ∧ va_D (fun _ => True) wc ∧ NW U ∧ SV ak av (va_A wc sz) U U.heap)
abbrev KWS (l : Launch) (y : MethodName) (ws : List Cond) (rm : Room) (D : va_G) (tys : List (ClassId × FieldType)) (wc : va_W) (ak av : Nat → Nat) (as : List Value) (sz mc ms : Nat) {S : Type} (post : Int32 → S → Prop) (w1 : S → va_W) : Prop := Met l y ws rm (PcWS D tys wc ak av as sz) (va_Qi post (Bw D (va_A wc sz) w1) (va_A wc sz)) mc ms (va_A wc sz)
theorem PcS_blind {k v N : Nat} {f : Nat → Int32} {as : List Value} : FrameBlind (PcS k v N f as) := by
  intro a U g mk q
  exact ⟨q.1, SC.moved (u := U) (U := U.calling g mk a) (Vm.Alike.refl U.vm) q.2⟩
theorem PcRS_blind {D : va_G} {tys : List (ClassId × FieldType)} {wc : va_W} {k v N : Nat} {f : Nat → Int32} {as : List Value} : FrameBlind (PcRS D tys wc k v N f as) := by
  intro a U g mk q
  obtain ⟨q0, q1, q2, q3, q4⟩ := q
  exact ⟨q0, q1, va_K.moved (u := U) (U := U.calling g mk a) (Vm.Alike.refl U.vm) q2, NW.same (u := U) rfl q3, SC.moved (u := U) (U := U.calling g mk a) (Vm.Alike.refl U.vm) q4⟩
theorem PcWS_blind {D : va_G} {tys : List (ClassId × FieldType)} {wc : va_W} {ak av : Nat → Nat} {as : List Value} {sz : Nat} : FrameBlind (PcWS D tys wc ak av as sz) := by
  intro a U g mk q
  obtain ⟨q0, q1, q2, q3, q4, q5, q6⟩ := q
  exact ⟨q0, q1, q2, va_K.moved (u := U) (U := U.calling g mk a) (Vm.Alike.refl U.vm) q3, q4, NW.same (u := U) rfl q5, ⟨fun i hi => SC.moved (u := U) (U := U.calling g mk a) (Vm.Alike.refl U.vm) (q6.1 i hi), SR.same (u := U) (U := U.calling g mk a) rfl q6.2⟩⟩
section KC3
variable {p : Program} {l : Launch} {e : Env} {R : Room} {s : State} {m : MethodId} {args : Array Value} {below : List Frame} {meth : Method} {c : Code} {H H0 : Heap} {locs : List Loc} {cells slots : Nat} {Q : State → Prop}
variable {pc : Nat} {ls : Array Slot} {rest st0 : List Value} {cc bytes : ByteArray} {nL maxL n index : Nat} {own C : String} {y : MethodName} {ret : Option FieldType} {ws Ts : List Cond} {rm : Room} {D : va_G} {tys : List (ClassId × FieldType)} {w wc wr : va_W} {A : Nat → Prop}
theorem preS {k v N : Nat} {f : Nat → Int32} (hC : SC k v N f NoA s H) (as : List Value) : PreS s H (PcS k v N f as) as :=
  ⟨PcS_blind, fun U hU hW => ⟨rfl, by show SC k v N f NoA U U.heap; rw [hU]; exact SC.moved hW.alike hC⟩⟩
theorem recvS {k v N : Nat} {f : Nat → Int32} (hC : SC k v N f NoA s H) : ∃ cell : Cell, H[k]? = some cell ∧ cell.vm.isStatics = false ∧ s.vm.findClass "java/lang/String" = some cell.cls := by
  obtain ⟨cell, h1, h2, h3, -⟩ := hC.1
  exact ⟨cell, h1, h2, h3⟩
/-- a String's reader called on it -/
theorem rdVS (S : CallFix p m c cc nL s args Ts own) {post : Int32 → Prop} {k v N : Nat} {f : Nat → Int32} {As : List Value} (hM : KS l y ws rm k v N f (.ref k :: As) post) (cw : CallW R s args own "java/lang/String" index y bytes maxL ret ws rm 0 0 n) (hC : SC k v N f NoA s H)
    (hn : As.length = n) (hsize : ls.size = nL) (hstack : st0 = As.reverse ++ .ref k :: rest) (hW : (rest.map fun v => v.category).sum ≤ 8) (hdg : decode cc pc = .ok (.invokevirtual index, 3)) (hf : cells + 0 ≤ R.cells ∧ slots + 0 ≤ R.slots)
    (kk : ∀ r : Int32, post r → W p l e R s m args below meth c H locs cells slots Q (F0 m (pc + 3) ls (.int r :: rest))) : W p l e R s m args below meth c H locs cells slots Q (F0 m pc ls st0) := by
  have hp := preS hC (.ref k :: As)
  exact rd_run (va_runV S hM cw ⟨hp.1, recvS hC, hp.2⟩ rfl hn hsize hstack (lv_room hW) hdg hf) kk
/-- a static reader over a String -/
theorem rdSS (S : CallFix p m c cc nL s args Ts own) {post : Int32 → Prop} {k v N : Nat} {f : Nat → Int32} {As : List Value} (hM : KS l y ws rm k v N f As post) (cw : CallB R s args own index y bytes maxL ret ws rm 0 0 n ∧ (Cond.static y).before args s = true) (hC : SC k v N f NoA s H)
    (hn : As.length = n) (hsize : ls.size = nL) (hstack : st0 = As.reverse ++ rest) (hW : (rest.map fun v => v.category).sum ≤ 8) (hdg : decode cc pc = .ok (.invokestatic index, 3)) (hf : cells + 0 ≤ R.cells ∧ slots + 0 ≤ R.slots)
    (kk : ∀ r : Int32, post r → W p l e R s m args below meth c H locs cells slots Q (F0 m (pc + 3) ls (.int r :: rest))) : W p l e R s m args below meth c H locs cells slots Q (F0 m pc ls st0) :=
  rd_run (va_runS S hM cw (preS hC As) rfl hn hsize hstack (lv_room hW) hdg hf) kk
def QRv : Array Value → State → Outcome → State → Prop := fun _ st oc t => oc = .returned none ∧ t.heap = st.heap
theorem rd_runv {a : Array Value} (hr : va_Run p l e R s m args below meth c H locs cells slots 0 0 (F0 m pc ls st0) rest (QRv a) (fun _ => False))
    (kk : W p l e R s m args below meth c H locs cells slots Q (F0 m (pc + 3) ls rest)) : W p l e R s m args below meth c H locs cells slots Q (F0 m pc ls st0) := by
  intro T hT X
  obtain ⟨v, st₀, t, T', L, h0, X', hL, e1, -, ⟨hv, hh⟩, st⟩ := hr T hT X
  cases hv
  obtain ⟨t2, a1, b1⟩ := kk T' (by rw [e1, hh, h0]) (Stand.forget X' (fun q h => (hL q h).elim))
  exact ⟨t2, st t2 a1, b1⟩
theorem rdSSv (S : CallFix p m c cc nL s args Ts own) {k v N : Nat} {f : Nat → Int32} {As : List Value} (hM : Met l y ws rm (PcS k v N f As) QRv 0 0 (fun _ => False)) (cw : CallB R s args own index y bytes maxL ret ws rm 0 0 n ∧ (Cond.static y).before args s = true) (hC : SC k v N f NoA s H)
    (hn : As.length = n) (hsize : ls.size = nL) (hstack : st0 = As.reverse ++ rest) (hW : (rest.map fun v => v.category).sum ≤ 8) (hdg : decode cc pc = .ok (.invokestatic index, 3)) (hf : cells + 0 ≤ R.cells ∧ slots + 0 ≤ R.slots)
    (kk : W p l e R s m args below meth c H locs cells slots Q (F0 m (pc + 3) ls rest)) : W p l e R s m args below meth c H locs cells slots Q (F0 m pc ls st0) :=
  rd_runv (va_runS S hM cw (preS hC As) rfl hn hsize hstack (lv_room hW) hdg hf) kk
/-- a reader of ours over a String called by invokevirtual -/
theorem rdVT (S : CallFix p m c cc nL s args Ts own) {post : Int32 → Prop} {k v N : Nat} {f : Nat → Int32} {b : Addr} {As : List Value} (hM : KRS l y ws rm D tys wc k v N f (.ref b :: As) post) (cw : CallW R s args own C index y bytes maxL ret ws rm 0 0 n) (hC : SC k v N f NoA s H)
    (hP : va_P D vwCl w H) (hK : va_K D vwCl tys s) (hN : NW s) (ps : List Nat) (hps : ps.map (fun i => w[i]?) = wc.map some) (q0 ci : Nat) {T : u_T} {N9 : Nat} {fs : List Value} (hc : vwCl[ci]? = some (C, T, N9)) (he : w[q0]? = some (b, .inr (ci, fs)))
    (hn : As.length = n) (hsize : ls.size = nL) (hstack : st0 = As.reverse ++ .ref b :: rest) (hW : (rest.map fun v => v.category).sum ≤ 8) (hdg : decode cc pc = .ok (.invokevirtual index, 3)) (hf : cells + 0 ≤ R.cells ∧ slots + 0 ≤ R.slots)
    (kk : ∀ r : Int32, post r → W p l e R s m args below meth c H locs cells slots Q (F0 m (pc + 3) ls (.int r :: rest))) : W p l e R s m args below meth c H locs cells slots Q (F0 m pc ls st0) := by
  have hp : PreS s H (PcRS D tys wc k v N f (.ref b :: As)) (.ref b :: As) := ⟨PcRS_blind, fun U hU hW => ⟨rfl, by rw [hU]; exact hP.sub ps (ka_fm hps), va_K.moved hW.alike hK, hN.warm hW, by rw [hU]; exact SC.moved hW.alike hC⟩⟩
  exact rd_run (va_runV S hM cw ⟨hp.1, va_recv (q0 := q0) hK hP hc he, hp.2⟩ rfl hn hsize hstack (lv_room hW) hdg hf) kk
/-- a writer with an int answer that loads Strings, called by invokevirtual -/
theorem wrVS (S : CallFix p m c cc nL s args Ts own) {mc ms : Nat} {post : Int32 → US → Prop} {w1 w2 : US → va_W} {ak av : Nat → Nat} {b : Addr} {As : List Value} (hM : KWS l y ws rm D tys wc ak av (.ref b :: As) H.size mc ms post w1) (cw : CallW R s args own C index y bytes maxL ret ws rm mc ms n) (hSV : SV ak av A s H)
    (hP : va_P D vwCl w H) (hD : va_D A w) (hS : va_S A H0 H locs) (hA : ∀ q, H0.size ≤ q → A q) (hK : va_K D vwCl tys s) (hN : NW s) (isC isR pm : List Nat) (hC : isC.map (fun i => w[i]?) = wc.map some) (hR : isR.map (fun i => w[i]?) = wr.map some) (hn1 : va_nd isC = true) (hn2 : va_nd isR = true) (hdis : ∀ i ∈ isR, i ∉ isC) (hpm : ∀ u, pm.map (fun i => (wr ++ w1 u)[i]?) = (w2 u).map some) (hnp : va_nd pm = true) (q0 ci : Nat) {T : u_T} {N : Nat} {fs : List Value} (hc : vwCl[ci]? = some (C, T, N)) (he : w[q0]? = some (b, .inr (ci, fs)))
    (hn : As.length = n) (hsize : ls.size = nL) (hstack : st0 = As.reverse ++ .ref b :: rest) (hW : (rest.map fun v => v.category).sum ≤ 8) (hdg : decode cc pc = .ok (.invokevirtual index, 3)) (hf : cells + mc ≤ R.cells ∧ slots + ms ≤ R.slots)
    (kk : ∀ (r : Int32) (u : US) (H1 : Heap) (locs1 : List Loc), post r u → va_P D vwCl (w2 u) H1 → va_D A (w2 u) → va_S A H0 H1 locs1 → W p l e R s m args below meth c H1 locs1 (cells + mc) (slots + ms) Q (F0 m (pc + 3) ls (.int r :: rest))) : W p l e R s m args below meth c H locs cells slots Q (F0 m pc ls st0) := by
  have hFc := va_free (wc := wc) hD hS hA isC hC
  have hp : PreS s H (PcWS D tys wc ak av (.ref b :: As) H.size) (.ref b :: As) := ⟨PcWS_blind, fun U hU hW => ⟨rfl, by rw [hU], by rw [hU]; exact hP.sub isC (ka_fm hC), va_K.moved hW.alike hK, (hD.sub isC hn1 hC).weaken (fun _ _ _ _ => trivial), hN.warm hW, by rw [hU]; exact (hSV.narrow hFc).warm hW⟩⟩
  refine va_calli (va_runV S hM cw ⟨hp.1, va_recv (q0 := q0) hK hP hc he, hp.2⟩ rfl hn hsize hstack (lv_room hW) hdg hf) hS (fun q _ h => hFc q h) hFc (fun r u t H1 locs1 ht hvm hw hB hz1 hk1 hS1 => ?_)
  obtain ⟨a1, a2⟩ := wr_back (w2 := w2) u hP hD hFc isC isR pm hC hR hn2 hdis hpm hnp t ht hB hk1
  exact kk r u H1 locs1 hw a1 a2 hS1
end KC3
theorem ka_shr0 {N : Nat} (h : N < 2 ^ 31) : nI N >>> ((0 : Int32) &&& 31) = nI N := by
  have := pk_shrN (n := N) h ((0 : Int32) &&& 31) 0 (by decide)
  rw [this]; simp
theorem ka_nc (x : Int32) : narrow .char (.int (x.toUInt32 % 65536).toInt32) = .int (x.toUInt32 % 65536).toInt32 := pk_nc x
set_option maxHeartbeats 4000000 in
set_option maxRecDepth 100000 in
theorem k_J0_coder_7d493 (l : Launch) (k v N : Nat) (f : Nat → Int32) : KS l yJ0_coder_7d493 wsJ0_coder_7d493 { frames := 0, cells := 0, slots := 0, locals := 0 } k v N f [.ref k] (fun r => r = 0) := by
  refine Met.ofW (cc := cJ0_coder_7d493) (maxL := 1) (ret := (some .byte)) (by decide) rfl ?_
  intro p e s m args below meth c s₁ B hml hv
  obtain ⟨rfl, hC⟩ := hv
  have hx := B.exec
  have hb := B.bytes
  have hr := B.returns
  have hts := atoms_spec (ws := wsJ0_coder_7d493) B.pre
  have hown : s.vm.findClass RJ0 = some m.cls := findClass_of_methodNamed B.named
  have hlocks := B.notSynchronized
  have hS : va_S NoA s.heap s.heap [] := va_S.rf
  have hl := lv_entry ([.ref k]) (n := 1) (Nat.le_of_ble_eq_true rfl)
  rw [lg_entry_eq]
  generalize (lg_sl ([.ref k]) ++ List.replicate (1 - (lg_sl ([.ref k])).length) Slot.unset).toArray = ls at hl ⊢
  have hl : lv_has ls 1 [(0, .ref k)] := hl
  refine va_gets hx hb hC.2.2.2.2.1 hS hown (hts (.fieldLink RJ0 38 "java/lang/String" "COMPACT_STRINGS" "Z") (List.mem_cons_of_mem _ (List.mem_of_getElem? (i := 0) rfl))) (fun _ h9 => h9) dJ0_coder_7d493_0 ?_
  refine lv_if_eq (tgt := 13) hx hb dJ0_coder_7d493_3 (by decide) (fun c9 => absurd c9 (by decide)) (fun _ => ?_)
  refine lv_aload_n hx hb dJ0_coder_7d493_6 rfl (lv_at hl 0 rfl) ?_
  refine vk_getf hx hb hC.2.1 hS hown (hts (.fieldLink RJ0 15 "java/lang/String" "coder" "B") (List.mem_cons_of_mem _ (List.mem_of_getElem? (i := 1) rfl))) (fun _ h9 => h9) dJ0_coder_7d493_7 ?_
  refine lv_goto (tgt := 14) hx hb dJ0_coder_7d493_10 (by decide) ?_
  exact W.zret (v := 0) hx hb hr (by decide) (fun tq ht hW => ⟨0, rfl, rfl, ht⟩) (fun q h => by cases h) dJ0_coder_7d493_14
set_option maxHeartbeats 4000000 in
set_option maxRecDepth 100000 in
theorem k_J0_isLatin1_aae02 (l : Launch) (k v N : Nat) (f : Nat → Int32) : KS l yJ0_isLatin1_aae02 wsJ0_isLatin1_aae02 { frames := 0, cells := 0, slots := 0, locals := 0 } k v N f [.ref k] (fun r => r = 1) := by
  refine Met.ofW (cc := cJ0_isLatin1_aae02) (maxL := 1) (ret := (some .boolean)) (by decide) rfl ?_
  intro p e s m args below meth c s₁ B hml hv
  obtain ⟨rfl, hC⟩ := hv
  have hx := B.exec
  have hb := B.bytes
  have hr := B.returns
  have hts := atoms_spec (ws := wsJ0_isLatin1_aae02) B.pre
  have hown : s.vm.findClass RJ0 = some m.cls := findClass_of_methodNamed B.named
  have hlocks := B.notSynchronized
  have hS : va_S NoA s.heap s.heap [] := va_S.rf
  have hl := lv_entry ([.ref k]) (n := 1) (Nat.le_of_ble_eq_true rfl)
  rw [lg_entry_eq]
  generalize (lg_sl ([.ref k]) ++ List.replicate (1 - (lg_sl ([.ref k])).length) Slot.unset).toArray = ls at hl ⊢
  have hl : lv_has ls 1 [(0, .ref k)] := hl
  refine va_gets hx hb hC.2.2.2.2.1 hS hown (hts (.fieldLink RJ0 38 "java/lang/String" "COMPACT_STRINGS" "Z") (List.mem_cons_of_mem _ (List.mem_of_getElem? (i := 0) rfl))) (fun _ h9 => h9) dJ0_isLatin1_aae02_0 ?_
  refine lv_if_eq (tgt := 17) hx hb dJ0_isLatin1_aae02_3 (by decide) (fun c9 => absurd c9 (by decide)) (fun _ => ?_)
  refine lv_aload_n hx hb dJ0_isLatin1_aae02_6 rfl (lv_at hl 0 rfl) ?_
  refine vk_getf hx hb hC.2.1 hS hown (hts (.fieldLink RJ0 15 "java/lang/String" "coder" "B") (List.mem_cons_of_mem _ (List.mem_of_getElem? (i := 1) rfl))) (fun _ h9 => h9) dJ0_isLatin1_aae02_7 ?_
  refine lv_if_ne (tgt := 17) hx hb dJ0_isLatin1_aae02_10 (by decide) (fun c9 => absurd rfl c9) (fun _ => ?_)
  refine lv_iconst (v := 1) hx hb dJ0_isLatin1_aae02_13 (by decide) ?_
  refine lv_goto (tgt := 18) hx hb dJ0_isLatin1_aae02_14 (by decide) ?_
  exact W.zret (v := 1) hx hb hr (by decide) (fun tq ht hW => ⟨1, rfl, rfl, ht⟩) (fun q h => by cases h) dJ0_isLatin1_aae02_18
set_option maxHeartbeats 4000000 in
set_option maxRecDepth 100000 in
theorem k_J0_length_8abf5 (l : Launch) (k v N : Nat) (f : Nat → Int32) (hN : N < 2 ^ 31) : KS l yJ0_length_8abf5 wsJ0_length_8abf5 { frames := 1, cells := 0, slots := 0, locals := 20 } k v N f [.ref k] (fun r => r = nI N) := by
  refine Met.ofW (cc := cJ0_length_8abf5) (maxL := 1) (ret := (some .int)) (by decide) rfl ?_
  intro p e s m args below meth c s₁ B hml hv
  obtain ⟨rfl, hC⟩ := hv
  have hx := B.exec
  have hb := B.bytes
  have hr := B.returns
  have hts := atoms_spec (ws := wsJ0_length_8abf5) B.pre
  have hown : s.vm.findClass RJ0 = some m.cls := findClass_of_methodNamed B.named
  have hlocks := B.notSynchronized
  have hS : va_S NoA s.heap s.heap [] := va_S.rf
  have hl := lv_entry ([.ref k]) (n := 1) (Nat.le_of_ble_eq_true rfl)
  rw [lg_entry_eq]
  generalize (lg_sl ([.ref k]) ++ List.replicate (1 - (lg_sl ([.ref k])).length) Slot.unset).toArray = ls at hl ⊢
  have hl : lv_has ls 1 [(0, .ref k)] := hl
  refine lv_aload_n hx hb dJ0_length_8abf5_0 rfl (lv_at hl 0 rfl) ?_
  refine vk_getf hx hb hC.2.2.1 hS hown (hts (.fieldLink RJ0 9 "java/lang/String" "value" "[B") (List.mem_cons_of_mem _ (List.mem_of_getElem? (i := 0) rfl))) (fun _ h9 => h9) dJ0_length_8abf5_1 ?_
  refine va_tlen (v := nI N) hx hb hC.2.2.2.1 hS rfl dJ0_length_8abf5_4 ?_
  refine lv_aload_n hx hb dJ0_length_8abf5_5 rfl (lv_at hl 0 rfl) ?_
  refine rdVS (As := []) (rest := [.int (nI N)]) ⟨hx, hb, hml, hown, hts⟩ (k_J0_coder_7d493 l k v N f) (cwV 0 hts gJ0_length_8abf5_J0_coder_7d493 rfl rfl rfl (by decide +kernel) ⟨Nat.le_of_ble_eq_true rfl, Nat.le_of_ble_eq_true rfl⟩) hC rfl hl.1 rfl (Nat.le_of_ble_eq_true rfl) dJ0_length_8abf5_6 ⟨Nat.le_of_ble_eq_true rfl, Nat.le_of_ble_eq_true rfl⟩ (fun r1 h1 => ?_)
  subst h1
  refine lv_ishr hx hb dJ0_length_8abf5_9 ?_
  exact W.iret (v := nI N >>> ((0 : Int32) &&& 31)) hx hb hr (fun tq ht hW => ⟨nI N >>> ((0 : Int32) &&& 31), rfl, ka_shr0 hN, ht⟩) (fun q h => by cases h) dJ0_length_8abf5_10
set_option maxHeartbeats 4000000 in
set_option maxRecDepth 100000 in
theorem k_J3_checkIndex_8e157_n (l : Launch) (k v N : Nat) (f : Nat → Int32) (i n : Int32) (hi : 0 ≤ i.toInt) (hn : i.toInt < n.toInt) : KS l yJ3_checkIndex_8e157 wsJ3_checkIndex_8e157 { frames := 0, cells := 0, slots := 0, locals := 0 } k v N f [.int i, .int n, .null] (fun r => r = i) := by
  refine Met.ofW (cc := cJ3_checkIndex_8e157) (maxL := 3) (ret := (some .int)) (by decide) rfl ?_
  intro p e s m args below meth c s₁ B hml hv
  obtain ⟨rfl, hC⟩ := hv
  have hx := B.exec
  have hb := B.bytes
  have hr := B.returns
  have hts := atoms_spec (ws := wsJ3_checkIndex_8e157) B.pre
  have hown : s.vm.findClass RJ3 = some m.cls := findClass_of_methodNamed B.named
  have hlocks := B.notSynchronized
  have hS : va_S NoA s.heap s.heap [] := va_S.rf
  have hl := lv_entry ([.int i, .int n, .null]) (n := 3) (Nat.le_of_ble_eq_true rfl)
  rw [lg_entry_eq]
  generalize (lg_sl ([.int i, .int n, .null]) ++ List.replicate (3 - (lg_sl ([.int i, .int n, .null])).length) Slot.unset).toArray = ls at hl ⊢
  have hl : lv_has ls 3 [(0, .int i), (1, .int n), (2, .null)] := hl
  refine lv_iload_n hx hb dJ3_checkIndex_8e157_0 rfl (lv_at hl 0 rfl) ?_
  refine lv_if_lt (tgt := 9) hx hb dJ3_checkIndex_8e157_1 (by decide) (fun c1 => ?_) (fun _ => ?_)
  · exfalso; have d1 : i.toInt < 0 := ltC rfl (show (0 : Int32).toInt = 0 from rfl) c1; omega
  refine lv_iload_n hx hb dJ3_checkIndex_8e157_4 rfl (lv_at hl 0 rfl) ?_
  refine lv_iload_n hx hb dJ3_checkIndex_8e157_5 rfl (lv_at hl 1 rfl) ?_
  refine lv_icmp_lt (tgt := 16) hx hb dJ3_checkIndex_8e157_6 (by decide) (fun _ => ?_) (fun c1 => ?_)
  · refine lv_iload_n hx hb dJ3_checkIndex_8e157_16 rfl (lv_at hl 0 rfl) ?_
    exact W.iret (v := i) hx hb hr (fun tq ht hW => ⟨i, rfl, rfl, ht⟩) (fun q h => by cases h) dJ3_checkIndex_8e157_17
  · exfalso; have d1 : n.toInt ≤ i.toInt := nltC rfl rfl c1; omega
set_option maxHeartbeats 4000000 in
set_option maxRecDepth 100000 in
theorem k_J3_checkIndex_8e157_r (l : Launch) (k v N : Nat) (f : Nat → Int32) (i n : Int32) (tt : Nat) (hi : 0 ≤ i.toInt) (hn : i.toInt < n.toInt) : KS l yJ3_checkIndex_8e157 wsJ3_checkIndex_8e157 { frames := 0, cells := 0, slots := 0, locals := 0 } k v N f [.int i, .int n, .ref tt] (fun r => r = i) := by
  refine Met.ofW (cc := cJ3_checkIndex_8e157) (maxL := 3) (ret := (some .int)) (by decide) rfl ?_
  intro p e s m args below meth c s₁ B hml hv
  obtain ⟨rfl, hC⟩ := hv
  have hx := B.exec
  have hb := B.bytes
  have hr := B.returns
  have hts := atoms_spec (ws := wsJ3_checkIndex_8e157) B.pre
  have hown : s.vm.findClass RJ3 = some m.cls := findClass_of_methodNamed B.named
  have hlocks := B.notSynchronized
  have hS : va_S NoA s.heap s.heap [] := va_S.rf
  have hl := lv_entry ([.int i, .int n, .ref tt]) (n := 3) (Nat.le_of_ble_eq_true rfl)
  rw [lg_entry_eq]
  generalize (lg_sl ([.int i, .int n, .ref tt]) ++ List.replicate (3 - (lg_sl ([.int i, .int n, .ref tt])).length) Slot.unset).toArray = ls at hl ⊢
  have hl : lv_has ls 3 [(0, .int i), (1, .int n), (2, .ref tt)] := hl
  refine lv_iload_n hx hb dJ3_checkIndex_8e157_0 rfl (lv_at hl 0 rfl) ?_
  refine lv_if_lt (tgt := 9) hx hb dJ3_checkIndex_8e157_1 (by decide) (fun c1 => ?_) (fun _ => ?_)
  · exfalso; have d1 : i.toInt < 0 := ltC rfl (show (0 : Int32).toInt = 0 from rfl) c1; omega
  refine lv_iload_n hx hb dJ3_checkIndex_8e157_4 rfl (lv_at hl 0 rfl) ?_
  refine lv_iload_n hx hb dJ3_checkIndex_8e157_5 rfl (lv_at hl 1 rfl) ?_
  refine lv_icmp_lt (tgt := 16) hx hb dJ3_checkIndex_8e157_6 (by decide) (fun _ => ?_) (fun c1 => ?_)
  · refine lv_iload_n hx hb dJ3_checkIndex_8e157_16 rfl (lv_at hl 0 rfl) ?_
    exact W.iret (v := i) hx hb hr (fun tq ht hW => ⟨i, rfl, rfl, ht⟩) (fun q h => by cases h) dJ3_checkIndex_8e157_17
  · exfalso; have d1 : n.toInt ≤ i.toInt := nltC rfl rfl c1; omega
theorem k_J3_checkIndex_8e157 (l : Launch) (k v N : Nat) (f : Nat → Int32) (i n : Int32) (fm : Value) (hi : 0 ≤ i.toInt) (hn : i.toInt < n.toInt) (hfm : fm = .null ∨ ∃ t, fm = .ref t) : KS l yJ3_checkIndex_8e157 wsJ3_checkIndex_8e157 { frames := 0, cells := 0, slots := 0, locals := 0 } k v N f [.int i, .int n, fm] (fun r => r = i) := by
  rcases hfm with rfl | ⟨t, rfl⟩
  · exact k_J3_checkIndex_8e157_n l k v N f i n hi hn
  · exact k_J3_checkIndex_8e157_r l k v N f i n t hi hn
set_option maxHeartbeats 4000000 in
set_option maxRecDepth 100000 in
theorem k_J0_checkIndex_df160 (l : Launch) (k v N : Nat) (f : Nat → Int32) (i n : Int32) (hi : 0 ≤ i.toInt) (hn : i.toInt < n.toInt) : Met l yJ0_checkIndex_df160 wsJ0_checkIndex_df160 { frames := 1, cells := 0, slots := 0, locals := 22 } (PcS k v N f [.int i, .int n]) QRv 0 0 (fun _ => False) := by
  refine Met.ofW (cc := cJ0_checkIndex_df160) (maxL := 2) (ret := none) (by decide) rfl ?_
  intro p e s m args below meth c s₁ B hml hv
  obtain ⟨rfl, hC⟩ := hv
  have hx := B.exec
  have hb := B.bytes
  have hr := B.returns
  have hts := atoms_spec (ws := wsJ0_checkIndex_df160) B.pre
  have hown : s.vm.findClass RJ0 = some m.cls := findClass_of_methodNamed B.named
  have hlocks := B.notSynchronized
  have hS : va_S NoA s.heap s.heap [] := va_S.rf
  have hl := lv_entry ([.int i, .int n]) (n := 2) (Nat.le_of_ble_eq_true rfl)
  rw [lg_entry_eq]
  generalize (lg_sl ([.int i, .int n]) ++ List.replicate (2 - (lg_sl ([.int i, .int n])).length) Slot.unset).toArray = ls at hl ⊢
  have hl : lv_has ls 2 [(0, .int i), (1, .int n)] := hl
  refine lv_iload_n hx hb dJ0_checkIndex_df160_0 rfl (lv_at hl 0 rfl) ?_
  refine lv_iload_n hx hb dJ0_checkIndex_df160_1 rfl (lv_at hl 1 rfl) ?_
  obtain ⟨fm, hfm, hZ⟩ : ∃ fm : Value, (fm = .null ∨ ∃ t, fm = .ref t) ∧ va_Z "jdk/internal/util/Preconditions" "SIOOBE_FORMATTER" "Ljava/util/function/BiFunction;" fm NoA s s.heap := by
    rcases hC.2.2.2.2.2 with h | ⟨t, h⟩
    · exact ⟨.null, Or.inl rfl, h⟩
    · exact ⟨.ref t, Or.inr ⟨t, rfl⟩, h⟩
  refine va_gets hx hb hZ hS hown (hts (.fieldLink RJ0 1053 "jdk/internal/util/Preconditions" "SIOOBE_FORMATTER" "Ljava/util/function/BiFunction;") (List.mem_cons_of_mem _ (List.mem_of_getElem? (i := 0) rfl))) (fun _ h9 => h9) dJ0_checkIndex_df160_2 ?_
  refine rdSS (As := [.int i, .int n, fm]) (rest := []) ⟨hx, hb, hml, hown, hts⟩ (k_J3_checkIndex_8e157 l k v N f i n fm hi hn hfm) (va_cwS 3 hts gJ0_checkIndex_df160_J3_checkIndex_8e157 rfl rfl rfl (by decide +kernel) ⟨Nat.le_of_ble_eq_true rfl, Nat.le_of_ble_eq_true rfl⟩) hC rfl hl.1 rfl (Nat.le_of_ble_eq_true rfl) dJ0_checkIndex_df160_5 ⟨Nat.le_of_ble_eq_true rfl, Nat.le_of_ble_eq_true rfl⟩ (fun r1 h1 => ?_)
  refine lv_pop hx hb dJ0_checkIndex_df160_8 rfl ?_
  exact W.vret hx hb hr (fun tq ht hW => ⟨rfl, ht⟩) (fun q h => by cases h) dJ0_checkIndex_df160_9
set_option maxHeartbeats 4000000 in
set_option maxRecDepth 100000 in
theorem k_J1_charAt_3b067 (l : Launch) (k v N : Nat) (f : Nat → Int32) (i : Int32) (hN : N < 2 ^ 31) (hi : 0 ≤ i.toInt) (hn : i.toInt < N) : KS l yJ1_charAt_3b067 wsJ1_charAt_3b067 { frames := 2, cells := 0, slots := 0, locals := 43 } k v N f [.ref v, .int i] (fun r => r = (((f i.toNatClampNeg) &&& 255).toUInt32 % 65536).toInt32) := by
  refine Met.ofW (cc := cJ1_charAt_3b067) (maxL := 2) (ret := (some .char)) (by decide) rfl ?_
  intro p e s m args below meth c s₁ B hml hv
  obtain ⟨rfl, hC⟩ := hv
  have hx := B.exec
  have hb := B.bytes
  have hr := B.returns
  have hts := atoms_spec (ws := wsJ1_charAt_3b067) B.pre
  have hown : s.vm.findClass RJ1 = some m.cls := findClass_of_methodNamed B.named
  have hlocks := B.notSynchronized
  have hS : va_S NoA s.heap s.heap [] := va_S.rf
  have hl := lv_entry ([.ref v, .int i]) (n := 2) (Nat.le_of_ble_eq_true rfl)
  rw [lg_entry_eq]
  generalize (lg_sl ([.ref v, .int i]) ++ List.replicate (2 - (lg_sl ([.ref v, .int i])).length) Slot.unset).toArray = ls at hl ⊢
  have hl : lv_has ls 2 [(0, .ref v), (1, .int i)] := hl
  refine lv_iload_n hx hb dJ1_charAt_3b067_0 rfl (lv_at hl 1 rfl) ?_
  refine lv_aload_n hx hb dJ1_charAt_3b067_1 rfl (lv_at hl 0 rfl) ?_
  refine va_tlen (v := nI N) hx hb hC.2.2.2.1 hS rfl dJ1_charAt_3b067_2 ?_
  refine rdSSv (As := [.int i, .int (nI N)]) (rest := []) ⟨hx, hb, hml, hown, hts⟩ (k_J0_checkIndex_df160 l k v N f i (nI N) hi (by rw [nI_toInt hN]; exact hn)) (va_cwS 2 hts gJ1_charAt_3b067_J0_checkIndex_df160 rfl rfl rfl (by decide +kernel) ⟨Nat.le_of_ble_eq_true rfl, Nat.le_of_ble_eq_true rfl⟩) hC rfl hl.1 rfl (Nat.le_of_ble_eq_true rfl) dJ1_charAt_3b067_3 ⟨Nat.le_of_ble_eq_true rfl, Nat.le_of_ble_eq_true rfl⟩ ?_
  refine lv_aload_n hx hb dJ1_charAt_3b067_6 rfl (lv_at hl 0 rfl) ?_
  refine lv_iload_n hx hb dJ1_charAt_3b067_7 rfl (lv_at hl 1 rfl) ?_
  refine va_tb (v := .int (f i.toNatClampNeg)) hx hb hC.2.2.2.1 hS (vp_in_iff.mpr ⟨hi, hn⟩) rfl dJ1_charAt_3b067_8 ?_
  refine lv_sipush (v := 255) hx hb dJ1_charAt_3b067_9 (by decide) ?_
  refine lv_iand hx hb dJ1_charAt_3b067_12 ?_
  refine lv_i2c hx hb dJ1_charAt_3b067_13 rfl ?_
  exact W.zret (v := (((f i.toNatClampNeg) &&& 255).toUInt32 % 65536).toInt32) hx hb hr (ka_nc _) (fun tq ht hW => ⟨_, rfl, rfl, ht⟩) (fun q h => by cases h) dJ1_charAt_3b067_14
set_option maxHeartbeats 4000000 in
set_option maxRecDepth 100000 in
theorem k_J0_charAt_5068e (l : Launch) (k v N : Nat) (f : Nat → Int32) (i : Int32) (hN : N < 2 ^ 31) (hi : 0 ≤ i.toInt) (hn : i.toInt < N) : KS l yJ0_charAt_5068e wsJ0_charAt_5068e { frames := 3, cells := 0, slots := 0, locals := 64 } k v N f [.ref k, .int i] (fun r => r = (((f i.toNatClampNeg) &&& 255).toUInt32 % 65536).toInt32) := by
  refine Met.ofW (cc := cJ0_charAt_5068e) (maxL := 2) (ret := (some .char)) (by decide) rfl ?_
  intro p e s m args below meth c s₁ B hml hv
  obtain ⟨rfl, hC⟩ := hv
  have hx := B.exec
  have hb := B.bytes
  have hr := B.returns
  have hts := atoms_spec (ws := wsJ0_charAt_5068e) B.pre
  have hown : s.vm.findClass RJ0 = some m.cls := findClass_of_methodNamed B.named
  have hlocks := B.notSynchronized
  have hS : va_S NoA s.heap s.heap [] := va_S.rf
  have hl := lv_entry ([.ref k, .int i]) (n := 2) (Nat.le_of_ble_eq_true rfl)
  rw [lg_entry_eq]
  generalize (lg_sl ([.ref k, .int i]) ++ List.replicate (2 - (lg_sl ([.ref k, .int i])).length) Slot.unset).toArray = ls at hl ⊢
  have hl : lv_has ls 2 [(0, .ref k), (1, .int i)] := hl
  refine lv_aload_n hx hb dJ0_charAt_5068e_0 rfl (lv_at hl 0 rfl) ?_
  refine rdVS (As := []) (rest := []) ⟨hx, hb, hml, hown, hts⟩ (k_J0_isLatin1_aae02 l k v N f) (cwV 0 hts gJ0_charAt_5068e_J0_isLatin1_aae02 rfl rfl rfl (by decide +kernel) ⟨Nat.le_of_ble_eq_true rfl, Nat.le_of_ble_eq_true rfl⟩) hC rfl hl.1 rfl (Nat.le_of_ble_eq_true rfl) dJ0_charAt_5068e_1 ⟨Nat.le_of_ble_eq_true rfl, Nat.le_of_ble_eq_true rfl⟩ (fun r1 h1 => ?_)
  subst h1
  refine lv_if_eq (tgt := 16) hx hb dJ0_charAt_5068e_4 (by decide) (fun c9 => absurd c9 (by decide)) (fun _ => ?_)
  refine lv_aload_n hx hb dJ0_charAt_5068e_7 rfl (lv_at hl 0 rfl) ?_
  refine vk_getf hx hb hC.2.2.1 hS hown (hts (.fieldLink RJ0 9 "java/lang/String" "value" "[B") (List.mem_cons_of_mem _ (List.mem_append_left _ (List.mem_of_getElem? (i := 0) rfl)))) (fun _ h9 => h9) dJ0_charAt_5068e_8 ?_
  refine lv_iload_n hx hb dJ0_charAt_5068e_11 rfl (lv_at hl 1 rfl) ?_
  refine rdSS (As := [.ref v, .int i]) (rest := []) ⟨hx, hb, hml, hown, hts⟩ (k_J1_charAt_3b067 l k v N f i hN hi hn) (va_cwS 2 hts gJ0_charAt_5068e_J1_charAt_3b067 rfl rfl rfl (by decide +kernel) ⟨Nat.le_of_ble_eq_true rfl, Nat.le_of_ble_eq_true rfl⟩) hC rfl hl.1 rfl (Nat.le_of_ble_eq_true rfl) dJ0_charAt_5068e_12 ⟨Nat.le_of_ble_eq_true rfl, Nat.le_of_ble_eq_true rfl⟩ (fun r2 h2 => ?_)
  subst h2
  exact W.zret (v := (((f i.toNatClampNeg) &&& 255).toUInt32 % 65536).toInt32) hx hb hr (ka_nc _) (fun tq ht hW => ⟨_, rfl, rfl, ht⟩) (fun q h => by cases h) dJ0_charAt_5068e_15
end
section
set_option maxRecDepth 20000 in
theorem dqX7_init_p210 : dz_rn 0 (cX7_init.data.toList.drop 0) [(0, 4), (3, 5), (0, 4), (4, 13)] = some [(0, .aload_n 0, 1), (1, .invokespecial 3, 3), (4, .aload_n 0, 1), (5, .sipush 160, 3)] := by decide +kernel
theorem dX7_init_0 : decode cX7_init 0 = .ok (.aload_n 0, 1) := dz_at dqX7_init_p210 0 rfl
theorem dX7_init_1 : decode cX7_init 1 = .ok (.invokespecial 3, 3) := dz_at dqX7_init_p210 1 rfl
theorem dX7_init_4 : decode cX7_init 4 = .ok (.aload_n 0, 1) := dz_at dqX7_init_p210 2 rfl
theorem dX7_init_5 : decode cX7_init 5 = .ok (.sipush 160, 3) := dz_at dqX7_init_p210 3 rfl
theorem dX7_init_8 : decode cX7_init 8 = .ok (.newarray .int, 2) := by decide +kernel
set_option maxRecDepth 20000 in
theorem dqX7_init_p211 : dz_rn 10 (cX7_init.data.toList.drop 10) [(3, 3), (0, 25)] = some [(10, .putfield 9, 3), (13, .return_, 1)] := by decide +kernel
theorem dX7_init_10 : decode cX7_init 10 = .ok (.putfield 9, 3) := dz_at dqX7_init_p211 0 rfl
theorem dX7_init_13 : decode cX7_init 13 = .ok (.return_, 1) := dz_at dqX7_init_p211 1 rfl
set_option maxRecDepth 20000 in
theorem dqX7_append_p210 : dz_rn 0 (cX7_append.data.toList.drop 0) [(0, 8), (1, 1), (1, 0), (0, 3), (4, 4), (0, 4), (3, 0), (4, 13), (4, 4), (0, 4), (3, 0), (0, 4), (3, 0), (0, 35)] = some [(0, .iconst 0, 1), (1, .istore 4, 2), (3, .iload 4, 2), (5, .iload_n 3, 1), (6, .if_icmp .ge 50, 3), (9, .aload_n 0, 1), (10, .getfield 15, 3), (13, .sipush 160, 3), (16, .if_icmp .ge 40, 3), (19, .aload_n 0, 1), (20, .getfield 9, 3), (23, .aload_n 0, 1), (24, .getfield 15, 3), (27, .lload_n 1, 1)] := by decide +kernel
theorem dX7_append_0 : decode cX7_append 0 = .ok (.iconst 0, 1) := dz_at dqX7_append_p210 0 rfl
theorem dX7_append_1 : decode cX7_append 1 = .ok (.istore 4, 2) := dz_at dqX7_append_p210 1 rfl
theorem dX7_append_3 : decode cX7_append 3 = .ok (.iload 4, 2) := dz_at dqX7_append_p210 2 rfl
theorem dX7_append_5 : decode cX7_append 5 = .ok (.iload_n 3, 1) := dz_at dqX7_append_p210 3 rfl
theorem dX7_append_6 : decode cX7_append 6 = .ok (.if_icmp .ge 50, 3) := dz_at dqX7_append_p210 4 rfl
theorem dX7_append_9 : decode cX7_append 9 = .ok (.aload_n 0, 1) := dz_at dqX7_append_p210 5 rfl
theorem dX7_append_10 : decode cX7_append 10 = .ok (.getfield 15, 3) := dz_at dqX7_append_p210 6 rfl
theorem dX7_append_13 : decode cX7_append 13 = .ok (.sipush 160, 3) := dz_at dqX7_append_p210 7 rfl
theorem dX7_append_16 : decode cX7_append 16 = .ok (.if_icmp .ge 40, 3) := dz_at dqX7_append_p210 8 rfl
theorem dX7_append_19 : decode cX7_append 19 = .ok (.aload_n 0, 1) := dz_at dqX7_append_p210 9 rfl
theorem dX7_append_20 : decode cX7_append 20 = .ok (.getfield 9, 3) := dz_at dqX7_append_p210 10 rfl
theorem dX7_append_23 : decode cX7_append 23 = .ok (.aload_n 0, 1) := dz_at dqX7_append_p210 11 rfl
theorem dX7_append_24 : decode cX7_append 24 = .ok (.getfield 15, 3) := dz_at dqX7_append_p210 12 rfl
theorem dX7_append_27 : decode cX7_append 27 = .ok (.lload_n 1, 1) := dz_at dqX7_append_p210 13 rfl
set_option maxRecDepth 20000 in
theorem dqX7_append_p211 : dz_rn 28 (cX7_append.data.toList.drop 28) [(2, 0), (1, 0), (0, 23), (0, 46), (3, 4), (0, 38)] = some [(28, .bipush 8, 2), (30, .iload 4, 2), (32, .imul, 1), (33, .lshr, 1), (34, .ldc2_w 19, 3), (37, .land, 1)] := by decide +kernel
theorem dX7_append_28 : decode cX7_append 28 = .ok (.bipush 8, 2) := dz_at dqX7_append_p211 0 rfl
theorem dX7_append_30 : decode cX7_append 30 = .ok (.iload 4, 2) := dz_at dqX7_append_p211 1 rfl
theorem dX7_append_32 : decode cX7_append 32 = .ok (.imul, 1) := dz_at dqX7_append_p211 2 rfl
theorem dX7_append_33 : decode cX7_append 33 = .ok (.lshr, 1) := dz_at dqX7_append_p211 3 rfl
theorem dX7_append_34 : decode cX7_append 34 = .ok (.ldc2_w 19, 3) := dz_at dqX7_append_p211 4 rfl
theorem dX7_append_37 : decode cX7_append 37 = .ok (.land, 1) := dz_at dqX7_append_p211 5 rfl
theorem dX7_append_38 : decode cX7_append 38 = .ok (.l2i, 1) := by decide +kernel
set_option maxRecDepth 20000 in
theorem dqX7_append_p212 : dz_rn 39 (cX7_append.data.toList.drop 39) [(0, 22), (0, 4), (0, 28), (3, 0), (0, 9), (0, 11), (3, 3), (5, 0), (4, 0), (0, 25)] = some [(39, .iastore, 1), (40, .aload_n 0, 1), (41, .dup, 1), (42, .getfield 15, 3), (45, .iconst 1, 1), (46, .iadd, 1), (47, .putfield 15, 3), (50, .iinc 4 1, 3), (53, .goto (-50), 3), (56, .return_, 1)] := by decide +kernel
theorem dX7_append_39 : decode cX7_append 39 = .ok (.iastore, 1) := dz_at dqX7_append_p212 0 rfl
theorem dX7_append_40 : decode cX7_append 40 = .ok (.aload_n 0, 1) := dz_at dqX7_append_p212 1 rfl
theorem dX7_append_41 : decode cX7_append 41 = .ok (.dup, 1) := dz_at dqX7_append_p212 2 rfl
theorem dX7_append_42 : decode cX7_append 42 = .ok (.getfield 15, 3) := dz_at dqX7_append_p212 3 rfl
theorem dX7_append_45 : decode cX7_append 45 = .ok (.iconst 1, 1) := dz_at dqX7_append_p212 4 rfl
theorem dX7_append_46 : decode cX7_append 46 = .ok (.iadd, 1) := dz_at dqX7_append_p212 5 rfl
theorem dX7_append_47 : decode cX7_append 47 = .ok (.putfield 15, 3) := dz_at dqX7_append_p212 6 rfl
theorem dX7_append_50 : decode cX7_append 50 = .ok (.iinc 4 1, 3) := dz_at dqX7_append_p212 7 rfl
theorem dX7_append_53 : decode cX7_append 53 = .ok (.goto (-50), 3) := dz_at dqX7_append_p212 8 rfl
theorem dX7_append_56 : decode cX7_append 56 = .ok (.return_, 1) := dz_at dqX7_append_p212 9 rfl
set_option maxRecDepth 20000 in
theorem ggX7_readInto_X5_forget : GoodIn wsX7_readInto wsX5_forget := goodIn_r _ [9, 10, 11, 12, 13, 14, 15, 16, 17, 18, 103, 104, 105, 106, 107] rfl (by decide +kernel)
set_option maxRecDepth 20000 in
theorem gX7_readInto_X5_forget : GoodIn wsX7_readInto (wsV RX7 21 RX5 yX5_forget wsX5_forget) := goodIn_app (goodIn_of _ (by decide +kernel)) ggX7_readInto_X5_forget
set_option maxRecDepth 20000 in
theorem ggX7_readInto_X7_readLine : GoodIn wsX7_readInto wsX7_readLine := goodIn_r _ [23, 24, 25, 26, 22, 27, 1, 3, 4, 2, 28, 29, 30, 31, 32, 33, 34, 35, 36, 37, 38, 39, 40, 41, 42, 43, 44, 45, 46, 47, 48, 49, 50, 51, 52, 53, 54, 55, 56, 57, 58, 59, 60, 61, 62, 63, 64, 65, 66, 67, 68, 69, 70, 71, 72, 73, 74, 75, 76, 77, 78, 79, 80, 81, 82, 83, 84, 85, 86, 87, 88, 89, 90, 91, 92, 93, 94, 95, 96, 97, 98, 103, 104, 105, 106, 107, 99, 100, 101, 102] rfl (by decide +kernel)
set_option maxRecDepth 20000 in
theorem gX7_readInto_X7_readLine : GoodIn wsX7_readInto (wsV RX7 29 RX7 yX7_readLine wsX7_readLine) := goodIn_app (goodIn_of _ (by decide +kernel)) ggX7_readInto_X7_readLine
set_option maxRecDepth 20000 in
theorem ggX7_readInto_X7_nextToken : GoodIn wsX7_readInto wsX7_nextToken := goodIn_r _ [27, 1, 3, 4, 2, 28, 29, 22, 30, 31, 32, 33, 99, 100, 101, 102] rfl (by decide +kernel)
set_option maxRecDepth 20000 in
theorem gX7_readInto_X7_nextToken : GoodIn wsX7_readInto (wsV RX7 39 RX7 yX7_nextToken wsX7_nextToken) := goodIn_app (goodIn_of _ (by decide +kernel)) ggX7_readInto_X7_nextToken
set_option maxRecDepth 20000 in
theorem dqX7_readInto_p210 : dz_rn 0 (cX7_readInto.data.toList.drop 0) [(0, 5), (3, 1), (0, 4), (0, 8), (3, 3), (0, 8), (0, 20), (0, 2), (2, 0), (4, 4), (0, 4), (0, 5), (3, 1), (4, 8)] = some [(0, .aload_n 1, 1), (1, .invokevirtual 21, 3), (4, .aload_n 0, 1), (5, .iconst 0, 1), (6, .putfield 26, 3), (9, .iconst 0, 1), (10, .istore_n 2, 1), (11, .iload_n 2, 1), (12, .bipush 10, 2), (14, .if_icmp .ge 68, 3), (17, .aload_n 0, 1), (18, .aload_n 1, 1), (19, .invokevirtual 29, 3), (22, .ifCond .ne 8, 3)] := by decide +kernel
theorem dX7_readInto_0 : decode cX7_readInto 0 = .ok (.aload_n 1, 1) := dz_at dqX7_readInto_p210 0 rfl
theorem dX7_readInto_1 : decode cX7_readInto 1 = .ok (.invokevirtual 21, 3) := dz_at dqX7_readInto_p210 1 rfl
theorem dX7_readInto_4 : decode cX7_readInto 4 = .ok (.aload_n 0, 1) := dz_at dqX7_readInto_p210 2 rfl
theorem dX7_readInto_5 : decode cX7_readInto 5 = .ok (.iconst 0, 1) := dz_at dqX7_readInto_p210 3 rfl
theorem dX7_readInto_6 : decode cX7_readInto 6 = .ok (.putfield 26, 3) := dz_at dqX7_readInto_p210 4 rfl
theorem dX7_readInto_9 : decode cX7_readInto 9 = .ok (.iconst 0, 1) := dz_at dqX7_readInto_p210 5 rfl
theorem dX7_readInto_10 : decode cX7_readInto 10 = .ok (.istore_n 2, 1) := dz_at dqX7_readInto_p210 6 rfl
theorem dX7_readInto_11 : decode cX7_readInto 11 = .ok (.iload_n 2, 1) := dz_at dqX7_readInto_p210 7 rfl
theorem dX7_readInto_12 : decode cX7_readInto 12 = .ok (.bipush 10, 2) := dz_at dqX7_readInto_p210 8 rfl
theorem dX7_readInto_14 : decode cX7_readInto 14 = .ok (.if_icmp .ge 68, 3) := dz_at dqX7_readInto_p210 9 rfl
theorem dX7_readInto_17 : decode cX7_readInto 17 = .ok (.aload_n 0, 1) := dz_at dqX7_readInto_p210 10 rfl
theorem dX7_readInto_18 : decode cX7_readInto 18 = .ok (.aload_n 1, 1) := dz_at dqX7_readInto_p210 11 rfl
theorem dX7_readInto_19 : decode cX7_readInto 19 = .ok (.invokevirtual 29, 3) := dz_at dqX7_readInto_p210 12 rfl
theorem dX7_readInto_22 : decode cX7_readInto 22 = .ok (.ifCond .ne 8, 3) := dz_at dqX7_readInto_p210 13 rfl
set_option maxRecDepth 20000 in
theorem dqX7_readInto_p211 : dz_rn 25 (cX7_readInto.data.toList.drop 25) [(0, 4), (3, 0), (0, 12), (0, 5), (0, 28), (3, 0), (0, 9), (0, 11), (3, 3), (0, 4), (3, 1), (0, 4), (3, 0), (0, 4)] = some [(25, .aload_n 0, 1), (26, .getfield 33, 3), (29, .ireturn, 1), (30, .aload_n 1, 1), (31, .dup, 1), (32, .getfield 36, 3), (35, .iconst 1, 1), (36, .iadd, 1), (37, .putfield 36, 3), (40, .aload_n 0, 1), (41, .invokevirtual 39, 3), (44, .aload_n 0, 1), (45, .getfield 33, 3), (48, .aload_n 0, 1)] := by decide +kernel
theorem dX7_readInto_25 : decode cX7_readInto 25 = .ok (.aload_n 0, 1) := dz_at dqX7_readInto_p211 0 rfl
theorem dX7_readInto_26 : decode cX7_readInto 26 = .ok (.getfield 33, 3) := dz_at dqX7_readInto_p211 1 rfl
theorem dX7_readInto_29 : decode cX7_readInto 29 = .ok (.ireturn, 1) := dz_at dqX7_readInto_p211 2 rfl
theorem dX7_readInto_30 : decode cX7_readInto 30 = .ok (.aload_n 1, 1) := dz_at dqX7_readInto_p211 3 rfl
theorem dX7_readInto_31 : decode cX7_readInto 31 = .ok (.dup, 1) := dz_at dqX7_readInto_p211 4 rfl
theorem dX7_readInto_32 : decode cX7_readInto 32 = .ok (.getfield 36, 3) := dz_at dqX7_readInto_p211 5 rfl
theorem dX7_readInto_35 : decode cX7_readInto 35 = .ok (.iconst 1, 1) := dz_at dqX7_readInto_p211 6 rfl
theorem dX7_readInto_36 : decode cX7_readInto 36 = .ok (.iadd, 1) := dz_at dqX7_readInto_p211 7 rfl
theorem dX7_readInto_37 : decode cX7_readInto 37 = .ok (.putfield 36, 3) := dz_at dqX7_readInto_p211 8 rfl
theorem dX7_readInto_40 : decode cX7_readInto 40 = .ok (.aload_n 0, 1) := dz_at dqX7_readInto_p211 9 rfl
theorem dX7_readInto_41 : decode cX7_readInto 41 = .ok (.invokevirtual 39, 3) := dz_at dqX7_readInto_p211 10 rfl
theorem dX7_readInto_44 : decode cX7_readInto 44 = .ok (.aload_n 0, 1) := dz_at dqX7_readInto_p211 11 rfl
theorem dX7_readInto_45 : decode cX7_readInto 45 = .ok (.getfield 33, 3) := dz_at dqX7_readInto_p211 12 rfl
theorem dX7_readInto_48 : decode cX7_readInto 48 = .ok (.aload_n 0, 1) := dz_at dqX7_readInto_p211 13 rfl
set_option maxRecDepth 20000 in
theorem dqX7_readInto_p212 : dz_rn 49 (cX7_readInto.data.toList.drop 49) [(3, 0), (4, 3), (0, 13), (0, 12), (0, 4), (3, 0), (0, 4), (3, 0), (0, 10), (2, 0), (4, 1), (0, 4), (3, 0), (0, 12)] = some [(49, .getfield 15, 3), (52, .if_icmp .lt 5, 3), (55, .iconst (-1), 1), (56, .ireturn, 1), (57, .aload_n 0, 1), (58, .getfield 9, 3), (61, .aload_n 0, 1), (62, .getfield 33, 3), (65, .iaload, 1), (66, .bipush 59, 2), (68, .if_icmp .eq 8, 3), (71, .aload_n 0, 1), (72, .getfield 33, 3), (75, .ireturn, 1)] := by decide +kernel
theorem dX7_readInto_49 : decode cX7_readInto 49 = .ok (.getfield 15, 3) := dz_at dqX7_readInto_p212 0 rfl
theorem dX7_readInto_52 : decode cX7_readInto 52 = .ok (.if_icmp .lt 5, 3) := dz_at dqX7_readInto_p212 1 rfl
theorem dX7_readInto_55 : decode cX7_readInto 55 = .ok (.iconst (-1), 1) := dz_at dqX7_readInto_p212 2 rfl
theorem dX7_readInto_56 : decode cX7_readInto 56 = .ok (.ireturn, 1) := dz_at dqX7_readInto_p212 3 rfl
theorem dX7_readInto_57 : decode cX7_readInto 57 = .ok (.aload_n 0, 1) := dz_at dqX7_readInto_p212 4 rfl
theorem dX7_readInto_58 : decode cX7_readInto 58 = .ok (.getfield 9, 3) := dz_at dqX7_readInto_p212 5 rfl
theorem dX7_readInto_61 : decode cX7_readInto 61 = .ok (.aload_n 0, 1) := dz_at dqX7_readInto_p212 6 rfl
theorem dX7_readInto_62 : decode cX7_readInto 62 = .ok (.getfield 33, 3) := dz_at dqX7_readInto_p212 7 rfl
theorem dX7_readInto_65 : decode cX7_readInto 65 = .ok (.iaload, 1) := dz_at dqX7_readInto_p212 8 rfl
theorem dX7_readInto_66 : decode cX7_readInto 66 = .ok (.bipush 59, 2) := dz_at dqX7_readInto_p212 9 rfl
theorem dX7_readInto_68 : decode cX7_readInto 68 = .ok (.if_icmp .eq 8, 3) := dz_at dqX7_readInto_p212 10 rfl
theorem dX7_readInto_71 : decode cX7_readInto 71 = .ok (.aload_n 0, 1) := dz_at dqX7_readInto_p212 11 rfl
theorem dX7_readInto_72 : decode cX7_readInto 72 = .ok (.getfield 33, 3) := dz_at dqX7_readInto_p212 12 rfl
theorem dX7_readInto_75 : decode cX7_readInto 75 = .ok (.ireturn, 1) := dz_at dqX7_readInto_p212 13 rfl
set_option maxRecDepth 20000 in
theorem dqX7_readInto_p213 : dz_rn 76 (cX7_readInto.data.toList.drop 76) [(5, 0), (4, 0), (0, 4), (3, 0), (0, 12)] = some [(76, .iinc 2 1, 3), (79, .goto (-68), 3), (82, .aload_n 0, 1), (83, .getfield 33, 3), (86, .ireturn, 1)] := by decide +kernel
theorem dX7_readInto_76 : decode cX7_readInto 76 = .ok (.iinc 2 1, 3) := dz_at dqX7_readInto_p213 0 rfl
theorem dX7_readInto_79 : decode cX7_readInto 79 = .ok (.goto (-68), 3) := dz_at dqX7_readInto_p213 1 rfl
theorem dX7_readInto_82 : decode cX7_readInto 82 = .ok (.aload_n 0, 1) := dz_at dqX7_readInto_p213 2 rfl
theorem dX7_readInto_83 : decode cX7_readInto 83 = .ok (.getfield 33, 3) := dz_at dqX7_readInto_p213 3 rfl
theorem dX7_readInto_86 : decode cX7_readInto 86 = .ok (.ireturn, 1) := dz_at dqX7_readInto_p213 4 rfl
set_option maxRecDepth 20000 in
theorem ggX7_readLine_X7_nextToken : GoodIn wsX7_readLine wsX7_nextToken := goodIn_r _ [5, 6, 7, 8, 9, 10, 11, 4, 12, 13, 14, 15, 86, 87, 88, 89] rfl (by decide +kernel)
set_option maxRecDepth 20000 in
theorem gX7_readLine_X7_nextToken : GoodIn wsX7_readLine (wsV RX7 39 RX7 yX7_nextToken wsX7_nextToken) := goodIn_app (goodIn_of _ (by decide +kernel)) ggX7_readLine_X7_nextToken
set_option maxRecDepth 20000 in
theorem ggX7_readLine_X7_tokenIs : GoodIn wsX7_readLine wsX7_tokenIs := goodIn_r _ [19, 6, 9, 8, 20, 21, 22, 23, 24, 25, 26, 27, 28, 29, 30, 31, 32, 33, 34, 35, 36, 37, 38, 39, 40, 41, 42, 43, 44, 45, 46, 47, 48, 49, 50, 51, 52, 53, 54, 55, 56, 57, 58, 59, 60, 61, 62, 63, 64, 65, 66, 67, 68, 86, 87, 88, 89] rfl (by decide +kernel)
set_option maxRecDepth 20000 in
theorem gX7_readLine_X7_tokenIs : GoodIn wsX7_readLine (wsV RX7 44 RX7 yX7_tokenIs wsX7_tokenIs) := goodIn_app (goodIn_of _ (by decide +kernel)) ggX7_readLine_X7_tokenIs
set_option maxRecDepth 20000 in
theorem ggX7_readLine_X7_readRoomLine : GoodIn wsX7_readLine wsX7_readRoomLine := goodIn_r _ [72, 73, 74, 75, 4, 76, 6, 9, 8, 1, 2, 3, 5, 7, 10, 11, 12, 13, 14, 15, 81, 82, 83, 84, 85, 86, 87, 88, 89] rfl (by decide +kernel)
set_option maxRecDepth 20000 in
theorem gX7_readLine_X7_readRoomLine : GoodIn wsX7_readLine (wsV RX7 48 RX7 yX7_readRoomLine wsX7_readRoomLine) := goodIn_app (goodIn_of _ (by decide +kernel)) ggX7_readLine_X7_readRoomLine
set_option maxRecDepth 20000 in
theorem ggX7_readLine_X7_readNumber : GoodIn wsX7_readLine wsX7_readNumber := goodIn_r _ [76, 6, 9, 8, 1, 2, 3, 4, 5, 7, 10, 11, 12, 13, 14, 15, 86, 87, 88, 89] rfl (by decide +kernel)
set_option maxRecDepth 20000 in
theorem gX7_readLine_X7_readNumber : GoodIn wsX7_readLine (wsV RX7 53 RX7 yX7_readNumber wsX7_readNumber) := goodIn_app (goodIn_of _ (by decide +kernel)) ggX7_readLine_X7_readNumber
set_option maxRecDepth 20000 in
theorem ggX7_readLine_X7_readWalkLine : GoodIn wsX7_readLine wsX7_readWalkLine := goodIn_r _ [80, 73, 74, 75, 4, 76, 6, 9, 8, 1, 2, 3, 5, 7, 10, 11, 12, 13, 14, 15, 16, 17, 18, 19, 20, 21, 22, 23, 24, 25, 26, 27, 28, 29, 30, 31, 32, 33, 34, 35, 36, 37, 38, 39, 40, 41, 42, 43, 44, 45, 46, 47, 48, 49, 50, 51, 52, 53, 54, 55, 56, 57, 58, 59, 60, 61, 62, 63, 64, 65, 66, 67, 68, 81, 82, 83, 84, 85, 86, 87, 88, 89] rfl (by decide +kernel)
set_option maxRecDepth 20000 in
theorem gX7_readLine_X7_readWalkLine : GoodIn wsX7_readLine (wsV RX7 65 RX7 yX7_readWalkLine wsX7_readWalkLine) := goodIn_app (goodIn_of _ (by decide +kernel)) ggX7_readLine_X7_readWalkLine
set_option maxRecDepth 20000 in
theorem dqX7_readLine_p210 : dz_rn 0 (cX7_readLine.data.toList.drop 0) [(0, 4), (3, 1), (0, 4)] = some [(0, .aload_n 0, 1), (1, .invokevirtual 39, 3), (4, .aload_n 0, 1)] := by decide +kernel
theorem dX7_readLine_0 : decode cX7_readLine 0 = .ok (.aload_n 0, 1) := dz_at dqX7_readLine_p210 0 rfl
theorem dX7_readLine_1 : decode cX7_readLine 1 = .ok (.invokevirtual 39, 3) := dz_at dqX7_readLine_p210 1 rfl
theorem dX7_readLine_4 : decode cX7_readLine 4 = .ok (.aload_n 0, 1) := dz_at dqX7_readLine_p210 2 rfl
theorem dX7_readLine_5 : decode cX7_readLine 5 = .ok (.ldc 42, 2) := by decide +kernel
set_option maxRecDepth 20000 in
theorem dqX7_readLine_p211 : dz_rn 7 (cX7_readLine.data.toList.drop 7) [(3, 1), (4, 7), (0, 4), (0, 5), (3, 1), (0, 12), (0, 4)] = some [(7, .invokevirtual 44, 3), (10, .ifCond .eq 9, 3), (13, .aload_n 0, 1), (14, .aload_n 1, 1), (15, .invokevirtual 48, 3), (18, .ireturn, 1), (19, .aload_n 0, 1)] := by decide +kernel
theorem dX7_readLine_7 : decode cX7_readLine 7 = .ok (.invokevirtual 44, 3) := dz_at dqX7_readLine_p211 0 rfl
theorem dX7_readLine_10 : decode cX7_readLine 10 = .ok (.ifCond .eq 9, 3) := dz_at dqX7_readLine_p211 1 rfl
theorem dX7_readLine_13 : decode cX7_readLine 13 = .ok (.aload_n 0, 1) := dz_at dqX7_readLine_p211 2 rfl
theorem dX7_readLine_14 : decode cX7_readLine 14 = .ok (.aload_n 1, 1) := dz_at dqX7_readLine_p211 3 rfl
theorem dX7_readLine_15 : decode cX7_readLine 15 = .ok (.invokevirtual 48, 3) := dz_at dqX7_readLine_p211 4 rfl
theorem dX7_readLine_18 : decode cX7_readLine 18 = .ok (.ireturn, 1) := dz_at dqX7_readLine_p211 5 rfl
theorem dX7_readLine_19 : decode cX7_readLine 19 = .ok (.aload_n 0, 1) := dz_at dqX7_readLine_p211 6 rfl
theorem dX7_readLine_20 : decode cX7_readLine 20 = .ok (.ldc 51, 2) := by decide +kernel
set_option maxRecDepth 20000 in
theorem dqX7_readLine_p212 : dz_rn 22 (cX7_readLine.data.toList.drop 22) [(3, 1), (4, 7), (0, 5), (0, 4), (0, 9), (2, 0), (3, 1), (3, 3), (0, 5), (3, 0), (0, 13), (4, 1), (0, 9), (4, 0)] = some [(22, .invokevirtual 44, 3), (25, .ifCond .eq 28, 3), (28, .aload_n 1, 1), (29, .aload_n 0, 1), (30, .iconst 1, 1), (31, .bipush 99, 2), (33, .invokevirtual 53, 3), (36, .putfield 57, 3), (39, .aload_n 1, 1), (40, .getfield 57, 3), (43, .iconst (-1), 1), (44, .if_icmp .eq 7, 3), (47, .iconst 1, 1), (48, .goto 4, 3)] := by decide +kernel
theorem dX7_readLine_22 : decode cX7_readLine 22 = .ok (.invokevirtual 44, 3) := dz_at dqX7_readLine_p212 0 rfl
theorem dX7_readLine_25 : decode cX7_readLine 25 = .ok (.ifCond .eq 28, 3) := dz_at dqX7_readLine_p212 1 rfl
theorem dX7_readLine_28 : decode cX7_readLine 28 = .ok (.aload_n 1, 1) := dz_at dqX7_readLine_p212 2 rfl
theorem dX7_readLine_29 : decode cX7_readLine 29 = .ok (.aload_n 0, 1) := dz_at dqX7_readLine_p212 3 rfl
theorem dX7_readLine_30 : decode cX7_readLine 30 = .ok (.iconst 1, 1) := dz_at dqX7_readLine_p212 4 rfl
theorem dX7_readLine_31 : decode cX7_readLine 31 = .ok (.bipush 99, 2) := dz_at dqX7_readLine_p212 5 rfl
theorem dX7_readLine_33 : decode cX7_readLine 33 = .ok (.invokevirtual 53, 3) := dz_at dqX7_readLine_p212 6 rfl
theorem dX7_readLine_36 : decode cX7_readLine 36 = .ok (.putfield 57, 3) := dz_at dqX7_readLine_p212 7 rfl
theorem dX7_readLine_39 : decode cX7_readLine 39 = .ok (.aload_n 1, 1) := dz_at dqX7_readLine_p212 8 rfl
theorem dX7_readLine_40 : decode cX7_readLine 40 = .ok (.getfield 57, 3) := dz_at dqX7_readLine_p212 9 rfl
theorem dX7_readLine_43 : decode cX7_readLine 43 = .ok (.iconst (-1), 1) := dz_at dqX7_readLine_p212 10 rfl
theorem dX7_readLine_44 : decode cX7_readLine 44 = .ok (.if_icmp .eq 7, 3) := dz_at dqX7_readLine_p212 11 rfl
theorem dX7_readLine_47 : decode cX7_readLine 47 = .ok (.iconst 1, 1) := dz_at dqX7_readLine_p212 12 rfl
theorem dX7_readLine_48 : decode cX7_readLine 48 = .ok (.goto 4, 3) := dz_at dqX7_readLine_p212 13 rfl
set_option maxRecDepth 20000 in
theorem dqX7_readLine_p213 : dz_rn 51 (cX7_readLine.data.toList.drop 51) [(0, 8), (0, 12), (0, 4)] = some [(51, .iconst 0, 1), (52, .ireturn, 1), (53, .aload_n 0, 1)] := by decide +kernel
theorem dX7_readLine_51 : decode cX7_readLine 51 = .ok (.iconst 0, 1) := dz_at dqX7_readLine_p213 0 rfl
theorem dX7_readLine_52 : decode cX7_readLine 52 = .ok (.ireturn, 1) := dz_at dqX7_readLine_p213 1 rfl
theorem dX7_readLine_53 : decode cX7_readLine 53 = .ok (.aload_n 0, 1) := dz_at dqX7_readLine_p213 2 rfl
theorem dX7_readLine_54 : decode cX7_readLine 54 = .ok (.ldc 59, 2) := by decide +kernel
set_option maxRecDepth 20000 in
theorem dqX7_readLine_p214 : dz_rn 56 (cX7_readLine.data.toList.drop 56) [(3, 1), (4, 7), (0, 5), (0, 4), (0, 8), (2, 0), (3, 1), (3, 3), (0, 5), (3, 0), (0, 13), (4, 1), (0, 9), (4, 0)] = some [(56, .invokevirtual 44, 3), (59, .ifCond .eq 28, 3), (62, .aload_n 1, 1), (63, .aload_n 0, 1), (64, .iconst 0, 1), (65, .bipush 8, 2), (67, .invokevirtual 53, 3), (70, .putfield 61, 3), (73, .aload_n 1, 1), (74, .getfield 61, 3), (77, .iconst (-1), 1), (78, .if_icmp .eq 7, 3), (81, .iconst 1, 1), (82, .goto 4, 3)] := by decide +kernel
theorem dX7_readLine_56 : decode cX7_readLine 56 = .ok (.invokevirtual 44, 3) := dz_at dqX7_readLine_p214 0 rfl
theorem dX7_readLine_59 : decode cX7_readLine 59 = .ok (.ifCond .eq 28, 3) := dz_at dqX7_readLine_p214 1 rfl
theorem dX7_readLine_62 : decode cX7_readLine 62 = .ok (.aload_n 1, 1) := dz_at dqX7_readLine_p214 2 rfl
theorem dX7_readLine_63 : decode cX7_readLine 63 = .ok (.aload_n 0, 1) := dz_at dqX7_readLine_p214 3 rfl
theorem dX7_readLine_64 : decode cX7_readLine 64 = .ok (.iconst 0, 1) := dz_at dqX7_readLine_p214 4 rfl
theorem dX7_readLine_65 : decode cX7_readLine 65 = .ok (.bipush 8, 2) := dz_at dqX7_readLine_p214 5 rfl
theorem dX7_readLine_67 : decode cX7_readLine 67 = .ok (.invokevirtual 53, 3) := dz_at dqX7_readLine_p214 6 rfl
theorem dX7_readLine_70 : decode cX7_readLine 70 = .ok (.putfield 61, 3) := dz_at dqX7_readLine_p214 7 rfl
theorem dX7_readLine_73 : decode cX7_readLine 73 = .ok (.aload_n 1, 1) := dz_at dqX7_readLine_p214 8 rfl
theorem dX7_readLine_74 : decode cX7_readLine 74 = .ok (.getfield 61, 3) := dz_at dqX7_readLine_p214 9 rfl
theorem dX7_readLine_77 : decode cX7_readLine 77 = .ok (.iconst (-1), 1) := dz_at dqX7_readLine_p214 10 rfl
theorem dX7_readLine_78 : decode cX7_readLine 78 = .ok (.if_icmp .eq 7, 3) := dz_at dqX7_readLine_p214 11 rfl
theorem dX7_readLine_81 : decode cX7_readLine 81 = .ok (.iconst 1, 1) := dz_at dqX7_readLine_p214 12 rfl
theorem dX7_readLine_82 : decode cX7_readLine 82 = .ok (.goto 4, 3) := dz_at dqX7_readLine_p214 13 rfl
set_option maxRecDepth 20000 in
theorem dqX7_readLine_p215 : dz_rn 85 (cX7_readLine.data.toList.drop 85) [(0, 8), (0, 12), (0, 4)] = some [(85, .iconst 0, 1), (86, .ireturn, 1), (87, .aload_n 0, 1)] := by decide +kernel
theorem dX7_readLine_85 : decode cX7_readLine 85 = .ok (.iconst 0, 1) := dz_at dqX7_readLine_p215 0 rfl
theorem dX7_readLine_86 : decode cX7_readLine 86 = .ok (.ireturn, 1) := dz_at dqX7_readLine_p215 1 rfl
theorem dX7_readLine_87 : decode cX7_readLine 87 = .ok (.aload_n 0, 1) := dz_at dqX7_readLine_p215 2 rfl
theorem dX7_readLine_88 : decode cX7_readLine 88 = .ok (.ldc 63, 2) := by decide +kernel
set_option maxRecDepth 20000 in
theorem dqX7_readLine_p216 : dz_rn 90 (cX7_readLine.data.toList.drop 90) [(3, 1), (4, 7), (0, 4), (0, 5), (3, 1), (4, 7), (0, 9), (4, 0), (0, 8), (0, 12)] = some [(90, .invokevirtual 44, 3), (93, .ifCond .eq 15, 3), (96, .aload_n 0, 1), (97, .aload_n 1, 1), (98, .invokevirtual 65, 3), (101, .ifCond .eq 7, 3), (104, .iconst 1, 1), (105, .goto 4, 3), (108, .iconst 0, 1), (109, .ireturn, 1)] := by decide +kernel
theorem dX7_readLine_90 : decode cX7_readLine 90 = .ok (.invokevirtual 44, 3) := dz_at dqX7_readLine_p216 0 rfl
theorem dX7_readLine_93 : decode cX7_readLine 93 = .ok (.ifCond .eq 15, 3) := dz_at dqX7_readLine_p216 1 rfl
theorem dX7_readLine_96 : decode cX7_readLine 96 = .ok (.aload_n 0, 1) := dz_at dqX7_readLine_p216 2 rfl
theorem dX7_readLine_97 : decode cX7_readLine 97 = .ok (.aload_n 1, 1) := dz_at dqX7_readLine_p216 3 rfl
theorem dX7_readLine_98 : decode cX7_readLine 98 = .ok (.invokevirtual 65, 3) := dz_at dqX7_readLine_p216 4 rfl
theorem dX7_readLine_101 : decode cX7_readLine 101 = .ok (.ifCond .eq 7, 3) := dz_at dqX7_readLine_p216 5 rfl
theorem dX7_readLine_104 : decode cX7_readLine 104 = .ok (.iconst 1, 1) := dz_at dqX7_readLine_p216 6 rfl
theorem dX7_readLine_105 : decode cX7_readLine 105 = .ok (.goto 4, 3) := dz_at dqX7_readLine_p216 7 rfl
theorem dX7_readLine_108 : decode cX7_readLine 108 = .ok (.iconst 0, 1) := dz_at dqX7_readLine_p216 8 rfl
theorem dX7_readLine_109 : decode cX7_readLine 109 = .ok (.ireturn, 1) := dz_at dqX7_readLine_p216 9 rfl
set_option maxRecDepth 20000 in
theorem ggX7_readRoomLine_X7_readNumber : GoodIn wsX7_readRoomLine wsX7_readNumber := goodIn_r _ [5, 6, 7, 8, 9, 10, 11, 4, 12, 13, 14, 15, 16, 17, 18, 19, 25, 26, 27, 28] rfl (by decide +kernel)
set_option maxRecDepth 20000 in
theorem gX7_readRoomLine_X7_readNumber : GoodIn wsX7_readRoomLine (wsV RX7 53 RX7 yX7_readNumber wsX7_readNumber) := goodIn_app (goodIn_of _ (by decide +kernel)) ggX7_readRoomLine_X7_readNumber
set_option maxRecDepth 20000 in
theorem dqX7_readRoomLine_p210 : dz_rn 0 (cX7_readRoomLine.data.toList.drop 0) [(0, 4), (0, 8), (2, 0), (3, 1), (0, 20), (0, 2), (0, 13), (4, 2), (0, 8), (0, 12), (0, 5), (3, 0), (0, 2), (0, 4)] = some [(0, .aload_n 0, 1), (1, .iconst 0, 1), (2, .bipush 7, 2), (4, .invokevirtual 53, 3), (7, .istore_n 2, 1), (8, .iload_n 2, 1), (9, .iconst (-1), 1), (10, .if_icmp .ne 5, 3), (13, .iconst 0, 1), (14, .ireturn, 1), (15, .aload_n 1, 1), (16, .getfield 68, 3), (19, .iload_n 2, 1), (20, .aload_n 0, 1)] := by decide +kernel
theorem dX7_readRoomLine_0 : decode cX7_readRoomLine 0 = .ok (.aload_n 0, 1) := dz_at dqX7_readRoomLine_p210 0 rfl
theorem dX7_readRoomLine_1 : decode cX7_readRoomLine 1 = .ok (.iconst 0, 1) := dz_at dqX7_readRoomLine_p210 1 rfl
theorem dX7_readRoomLine_2 : decode cX7_readRoomLine 2 = .ok (.bipush 7, 2) := dz_at dqX7_readRoomLine_p210 2 rfl
theorem dX7_readRoomLine_4 : decode cX7_readRoomLine 4 = .ok (.invokevirtual 53, 3) := dz_at dqX7_readRoomLine_p210 3 rfl
theorem dX7_readRoomLine_7 : decode cX7_readRoomLine 7 = .ok (.istore_n 2, 1) := dz_at dqX7_readRoomLine_p210 4 rfl
theorem dX7_readRoomLine_8 : decode cX7_readRoomLine 8 = .ok (.iload_n 2, 1) := dz_at dqX7_readRoomLine_p210 5 rfl
theorem dX7_readRoomLine_9 : decode cX7_readRoomLine 9 = .ok (.iconst (-1), 1) := dz_at dqX7_readRoomLine_p210 6 rfl
theorem dX7_readRoomLine_10 : decode cX7_readRoomLine 10 = .ok (.if_icmp .ne 5, 3) := dz_at dqX7_readRoomLine_p210 7 rfl
theorem dX7_readRoomLine_13 : decode cX7_readRoomLine 13 = .ok (.iconst 0, 1) := dz_at dqX7_readRoomLine_p210 8 rfl
theorem dX7_readRoomLine_14 : decode cX7_readRoomLine 14 = .ok (.ireturn, 1) := dz_at dqX7_readRoomLine_p210 9 rfl
theorem dX7_readRoomLine_15 : decode cX7_readRoomLine 15 = .ok (.aload_n 1, 1) := dz_at dqX7_readRoomLine_p210 10 rfl
theorem dX7_readRoomLine_16 : decode cX7_readRoomLine 16 = .ok (.getfield 68, 3) := dz_at dqX7_readRoomLine_p210 11 rfl
theorem dX7_readRoomLine_19 : decode cX7_readRoomLine 19 = .ok (.iload_n 2, 1) := dz_at dqX7_readRoomLine_p210 12 rfl
theorem dX7_readRoomLine_20 : decode cX7_readRoomLine 20 = .ok (.aload_n 0, 1) := dz_at dqX7_readRoomLine_p210 13 rfl
set_option maxRecDepth 20000 in
theorem dqX7_readRoomLine_p211 : dz_rn 21 (cX7_readRoomLine.data.toList.drop 21) [(0, 8), (2, 0), (3, 1), (0, 22), (0, 5), (3, 0), (0, 2), (0, 10), (0, 13), (4, 1), (0, 9), (4, 0), (0, 8), (0, 12)] = some [(21, .iconst 0, 1), (22, .bipush 8, 2), (24, .invokevirtual 53, 3), (27, .iastore, 1), (28, .aload_n 1, 1), (29, .getfield 68, 3), (32, .iload_n 2, 1), (33, .iaload, 1), (34, .iconst (-1), 1), (35, .if_icmp .eq 7, 3), (38, .iconst 1, 1), (39, .goto 4, 3), (42, .iconst 0, 1), (43, .ireturn, 1)] := by decide +kernel
theorem dX7_readRoomLine_21 : decode cX7_readRoomLine 21 = .ok (.iconst 0, 1) := dz_at dqX7_readRoomLine_p211 0 rfl
theorem dX7_readRoomLine_22 : decode cX7_readRoomLine 22 = .ok (.bipush 8, 2) := dz_at dqX7_readRoomLine_p211 1 rfl
theorem dX7_readRoomLine_24 : decode cX7_readRoomLine 24 = .ok (.invokevirtual 53, 3) := dz_at dqX7_readRoomLine_p211 2 rfl
theorem dX7_readRoomLine_27 : decode cX7_readRoomLine 27 = .ok (.iastore, 1) := dz_at dqX7_readRoomLine_p211 3 rfl
theorem dX7_readRoomLine_28 : decode cX7_readRoomLine 28 = .ok (.aload_n 1, 1) := dz_at dqX7_readRoomLine_p211 4 rfl
theorem dX7_readRoomLine_29 : decode cX7_readRoomLine 29 = .ok (.getfield 68, 3) := dz_at dqX7_readRoomLine_p211 5 rfl
theorem dX7_readRoomLine_32 : decode cX7_readRoomLine 32 = .ok (.iload_n 2, 1) := dz_at dqX7_readRoomLine_p211 6 rfl
theorem dX7_readRoomLine_33 : decode cX7_readRoomLine 33 = .ok (.iaload, 1) := dz_at dqX7_readRoomLine_p211 7 rfl
theorem dX7_readRoomLine_34 : decode cX7_readRoomLine 34 = .ok (.iconst (-1), 1) := dz_at dqX7_readRoomLine_p211 8 rfl
theorem dX7_readRoomLine_35 : decode cX7_readRoomLine 35 = .ok (.if_icmp .eq 7, 3) := dz_at dqX7_readRoomLine_p211 9 rfl
theorem dX7_readRoomLine_38 : decode cX7_readRoomLine 38 = .ok (.iconst 1, 1) := dz_at dqX7_readRoomLine_p211 10 rfl
theorem dX7_readRoomLine_39 : decode cX7_readRoomLine 39 = .ok (.goto 4, 3) := dz_at dqX7_readRoomLine_p211 11 rfl
theorem dX7_readRoomLine_42 : decode cX7_readRoomLine 42 = .ok (.iconst 0, 1) := dz_at dqX7_readRoomLine_p211 12 rfl
theorem dX7_readRoomLine_43 : decode cX7_readRoomLine 43 = .ok (.ireturn, 1) := dz_at dqX7_readRoomLine_p211 13 rfl
set_option maxRecDepth 20000 in
theorem ggX7_readWalkLine_X7_readNumber : GoodIn wsX7_readWalkLine wsX7_readNumber := goodIn_r _ [5, 6, 7, 8, 9, 10, 11, 4, 12, 13, 14, 15, 16, 17, 18, 19, 78, 79, 80, 81] rfl (by decide +kernel)
set_option maxRecDepth 20000 in
theorem gX7_readWalkLine_X7_readNumber : GoodIn wsX7_readWalkLine (wsV RX7 53 RX7 yX7_readNumber wsX7_readNumber) := goodIn_app (goodIn_of _ (by decide +kernel)) ggX7_readWalkLine_X7_readNumber
set_option maxRecDepth 20000 in
theorem ggX7_readWalkLine_X7_nextToken : GoodIn wsX7_readWalkLine wsX7_nextToken := goodIn_r _ [12, 6, 13, 8, 7, 14, 15, 4, 16, 17, 18, 19, 78, 79, 80, 81] rfl (by decide +kernel)
set_option maxRecDepth 20000 in
theorem gX7_readWalkLine_X7_nextToken : GoodIn wsX7_readWalkLine (wsV RX7 39 RX7 yX7_nextToken wsX7_nextToken) := goodIn_app (goodIn_of _ (by decide +kernel)) ggX7_readWalkLine_X7_nextToken
set_option maxRecDepth 20000 in
theorem ggX7_readWalkLine_X7_tokenIs : GoodIn wsX7_readWalkLine wsX7_tokenIs := goodIn_r _ [23, 6, 7, 8, 24, 25, 26, 27, 28, 29, 30, 31, 32, 33, 34, 35, 36, 37, 38, 39, 40, 41, 42, 43, 44, 45, 46, 47, 48, 49, 50, 51, 52, 53, 54, 55, 56, 57, 58, 59, 60, 61, 62, 63, 64, 65, 66, 67, 68, 69, 70, 71, 72, 78, 79, 80, 81] rfl (by decide +kernel)
set_option maxRecDepth 20000 in
theorem gX7_readWalkLine_X7_tokenIs : GoodIn wsX7_readWalkLine (wsV RX7 44 RX7 yX7_tokenIs wsX7_tokenIs) := goodIn_app (goodIn_of _ (by decide +kernel)) ggX7_readWalkLine_X7_tokenIs
set_option maxRecDepth 20000 in
theorem dqX7_readWalkLine_p210 : dz_rn 0 (cX7_readWalkLine.data.toList.drop 0) [(0, 4), (0, 8), (2, 0), (3, 1), (0, 20), (0, 2), (0, 13), (4, 2), (0, 8), (0, 12), (0, 4), (3, 1), (0, 4)] = some [(0, .aload_n 0, 1), (1, .iconst 0, 1), (2, .bipush 7, 2), (4, .invokevirtual 53, 3), (7, .istore_n 2, 1), (8, .iload_n 2, 1), (9, .iconst (-1), 1), (10, .if_icmp .ne 5, 3), (13, .iconst 0, 1), (14, .ireturn, 1), (15, .aload_n 0, 1), (16, .invokevirtual 39, 3), (19, .aload_n 0, 1)] := by decide +kernel
theorem dX7_readWalkLine_0 : decode cX7_readWalkLine 0 = .ok (.aload_n 0, 1) := dz_at dqX7_readWalkLine_p210 0 rfl
theorem dX7_readWalkLine_1 : decode cX7_readWalkLine 1 = .ok (.iconst 0, 1) := dz_at dqX7_readWalkLine_p210 1 rfl
theorem dX7_readWalkLine_2 : decode cX7_readWalkLine 2 = .ok (.bipush 7, 2) := dz_at dqX7_readWalkLine_p210 2 rfl
theorem dX7_readWalkLine_4 : decode cX7_readWalkLine 4 = .ok (.invokevirtual 53, 3) := dz_at dqX7_readWalkLine_p210 3 rfl
theorem dX7_readWalkLine_7 : decode cX7_readWalkLine 7 = .ok (.istore_n 2, 1) := dz_at dqX7_readWalkLine_p210 4 rfl
theorem dX7_readWalkLine_8 : decode cX7_readWalkLine 8 = .ok (.iload_n 2, 1) := dz_at dqX7_readWalkLine_p210 5 rfl
theorem dX7_readWalkLine_9 : decode cX7_readWalkLine 9 = .ok (.iconst (-1), 1) := dz_at dqX7_readWalkLine_p210 6 rfl
theorem dX7_readWalkLine_10 : decode cX7_readWalkLine 10 = .ok (.if_icmp .ne 5, 3) := dz_at dqX7_readWalkLine_p210 7 rfl
theorem dX7_readWalkLine_13 : decode cX7_readWalkLine 13 = .ok (.iconst 0, 1) := dz_at dqX7_readWalkLine_p210 8 rfl
theorem dX7_readWalkLine_14 : decode cX7_readWalkLine 14 = .ok (.ireturn, 1) := dz_at dqX7_readWalkLine_p210 9 rfl
theorem dX7_readWalkLine_15 : decode cX7_readWalkLine 15 = .ok (.aload_n 0, 1) := dz_at dqX7_readWalkLine_p210 10 rfl
theorem dX7_readWalkLine_16 : decode cX7_readWalkLine 16 = .ok (.invokevirtual 39, 3) := dz_at dqX7_readWalkLine_p210 11 rfl
theorem dX7_readWalkLine_19 : decode cX7_readWalkLine 19 = .ok (.aload_n 0, 1) := dz_at dqX7_readWalkLine_p210 12 rfl
theorem dX7_readWalkLine_20 : decode cX7_readWalkLine 20 = .ok (.ldc 71, 2) := by decide +kernel
set_option maxRecDepth 20000 in
theorem dqX7_readWalkLine_p211 : dz_rn 22 (cX7_readWalkLine.data.toList.drop 22) [(3, 1), (4, 8), (0, 8), (0, 12), (0, 5), (3, 0), (0, 2), (0, 4), (0, 9), (2, 0), (3, 1), (0, 22), (0, 5), (3, 0)] = some [(22, .invokevirtual 44, 3), (25, .ifCond .ne 5, 3), (28, .iconst 0, 1), (29, .ireturn, 1), (30, .aload_n 1, 1), (31, .getfield 73, 3), (34, .iload_n 2, 1), (35, .aload_n 0, 1), (36, .iconst 1, 1), (37, .bipush 99, 2), (39, .invokevirtual 53, 3), (42, .iastore, 1), (43, .aload_n 1, 1), (44, .getfield 73, 3)] := by decide +kernel
theorem dX7_readWalkLine_22 : decode cX7_readWalkLine 22 = .ok (.invokevirtual 44, 3) := dz_at dqX7_readWalkLine_p211 0 rfl
theorem dX7_readWalkLine_25 : decode cX7_readWalkLine 25 = .ok (.ifCond .ne 5, 3) := dz_at dqX7_readWalkLine_p211 1 rfl
theorem dX7_readWalkLine_28 : decode cX7_readWalkLine 28 = .ok (.iconst 0, 1) := dz_at dqX7_readWalkLine_p211 2 rfl
theorem dX7_readWalkLine_29 : decode cX7_readWalkLine 29 = .ok (.ireturn, 1) := dz_at dqX7_readWalkLine_p211 3 rfl
theorem dX7_readWalkLine_30 : decode cX7_readWalkLine 30 = .ok (.aload_n 1, 1) := dz_at dqX7_readWalkLine_p211 4 rfl
theorem dX7_readWalkLine_31 : decode cX7_readWalkLine 31 = .ok (.getfield 73, 3) := dz_at dqX7_readWalkLine_p211 5 rfl
theorem dX7_readWalkLine_34 : decode cX7_readWalkLine 34 = .ok (.iload_n 2, 1) := dz_at dqX7_readWalkLine_p211 6 rfl
theorem dX7_readWalkLine_35 : decode cX7_readWalkLine 35 = .ok (.aload_n 0, 1) := dz_at dqX7_readWalkLine_p211 7 rfl
theorem dX7_readWalkLine_36 : decode cX7_readWalkLine 36 = .ok (.iconst 1, 1) := dz_at dqX7_readWalkLine_p211 8 rfl
theorem dX7_readWalkLine_37 : decode cX7_readWalkLine 37 = .ok (.bipush 99, 2) := dz_at dqX7_readWalkLine_p211 9 rfl
theorem dX7_readWalkLine_39 : decode cX7_readWalkLine 39 = .ok (.invokevirtual 53, 3) := dz_at dqX7_readWalkLine_p211 10 rfl
theorem dX7_readWalkLine_42 : decode cX7_readWalkLine 42 = .ok (.iastore, 1) := dz_at dqX7_readWalkLine_p211 11 rfl
theorem dX7_readWalkLine_43 : decode cX7_readWalkLine 43 = .ok (.aload_n 1, 1) := dz_at dqX7_readWalkLine_p211 12 rfl
theorem dX7_readWalkLine_44 : decode cX7_readWalkLine 44 = .ok (.getfield 73, 3) := dz_at dqX7_readWalkLine_p211 13 rfl
set_option maxRecDepth 20000 in
theorem dqX7_readWalkLine_p212 : dz_rn 47 (cX7_readWalkLine.data.toList.drop 47) [(0, 2), (0, 10), (0, 13), (4, 1), (0, 9), (4, 0), (0, 8), (0, 12)] = some [(47, .iload_n 2, 1), (48, .iaload, 1), (49, .iconst (-1), 1), (50, .if_icmp .eq 7, 3), (53, .iconst 1, 1), (54, .goto 4, 3), (57, .iconst 0, 1), (58, .ireturn, 1)] := by decide +kernel
theorem dX7_readWalkLine_47 : decode cX7_readWalkLine 47 = .ok (.iload_n 2, 1) := dz_at dqX7_readWalkLine_p212 0 rfl
theorem dX7_readWalkLine_48 : decode cX7_readWalkLine 48 = .ok (.iaload, 1) := dz_at dqX7_readWalkLine_p212 1 rfl
theorem dX7_readWalkLine_49 : decode cX7_readWalkLine 49 = .ok (.iconst (-1), 1) := dz_at dqX7_readWalkLine_p212 2 rfl
theorem dX7_readWalkLine_50 : decode cX7_readWalkLine 50 = .ok (.if_icmp .eq 7, 3) := dz_at dqX7_readWalkLine_p212 3 rfl
theorem dX7_readWalkLine_53 : decode cX7_readWalkLine 53 = .ok (.iconst 1, 1) := dz_at dqX7_readWalkLine_p212 4 rfl
theorem dX7_readWalkLine_54 : decode cX7_readWalkLine 54 = .ok (.goto 4, 3) := dz_at dqX7_readWalkLine_p212 5 rfl
theorem dX7_readWalkLine_57 : decode cX7_readWalkLine 57 = .ok (.iconst 0, 1) := dz_at dqX7_readWalkLine_p212 6 rfl
theorem dX7_readWalkLine_58 : decode cX7_readWalkLine 58 = .ok (.ireturn, 1) := dz_at dqX7_readWalkLine_p212 7 rfl
set_option maxRecDepth 20000 in
theorem ggX7_readNumber_X7_nextToken : GoodIn wsX7_readNumber wsX7_nextToken := goodIn_r _ [8, 1, 9, 3, 2, 10, 11, 7, 12, 13, 14, 15, 16, 17, 18, 19] rfl (by decide +kernel)
set_option maxRecDepth 20000 in
theorem gX7_readNumber_X7_nextToken : GoodIn wsX7_readNumber (wsV RX7 39 RX7 yX7_nextToken wsX7_nextToken) := goodIn_app (goodIn_of _ (by decide +kernel)) ggX7_readNumber_X7_nextToken
set_option maxRecDepth 20000 in
theorem ggX7_readNumber_X7_kindOf : GoodIn wsX7_readNumber wsX7_kindOf := goodIn_r _ [12, 13, 14, 15] rfl (by decide +kernel)
set_option maxRecDepth 20000 in
theorem gX7_readNumber_X7_kindOf : GoodIn wsX7_readNumber (va_wsS RX7 76 yX7_kindOf wsX7_kindOf) := goodIn_app (goodIn_of _ (by decide +kernel)) ggX7_readNumber_X7_kindOf
set_option maxRecDepth 20000 in
theorem ggX7_readNumber_X9_within : GoodIn wsX7_readNumber wsX9_within := goodIn_r _ [15] rfl (by decide +kernel)
set_option maxRecDepth 20000 in
theorem gX7_readNumber_X9_within_n80 : GoodIn wsX7_readNumber (wsX9_within) := ggX7_readNumber_X9_within
set_option maxRecDepth 20000 in
theorem dqX7_readNumber_p210 : dz_rn 0 (cX7_readNumber.data.toList.drop 0) [(0, 4), (3, 1), (0, 4), (3, 0), (0, 4), (3, 0), (0, 26), (0, 21), (0, 3), (0, 9), (4, 3), (0, 3), (0, 14), (4, 5)] = some [(0, .aload_n 0, 1), (1, .invokevirtual 39, 3), (4, .aload_n 0, 1), (5, .getfield 26, 3), (8, .aload_n 0, 1), (9, .getfield 33, 3), (12, .isub, 1), (13, .istore_n 3, 1), (14, .iload_n 3, 1), (15, .iconst 1, 1), (16, .if_icmp .lt 24, 3), (19, .iload_n 3, 1), (20, .iconst 2, 1), (21, .if_icmp .gt 19, 3)] := by decide +kernel
theorem dX7_readNumber_0 : decode cX7_readNumber 0 = .ok (.aload_n 0, 1) := dz_at dqX7_readNumber_p210 0 rfl
theorem dX7_readNumber_1 : decode cX7_readNumber 1 = .ok (.invokevirtual 39, 3) := dz_at dqX7_readNumber_p210 1 rfl
theorem dX7_readNumber_4 : decode cX7_readNumber 4 = .ok (.aload_n 0, 1) := dz_at dqX7_readNumber_p210 2 rfl
theorem dX7_readNumber_5 : decode cX7_readNumber 5 = .ok (.getfield 26, 3) := dz_at dqX7_readNumber_p210 3 rfl
theorem dX7_readNumber_8 : decode cX7_readNumber 8 = .ok (.aload_n 0, 1) := dz_at dqX7_readNumber_p210 4 rfl
theorem dX7_readNumber_9 : decode cX7_readNumber 9 = .ok (.getfield 33, 3) := dz_at dqX7_readNumber_p210 5 rfl
theorem dX7_readNumber_12 : decode cX7_readNumber 12 = .ok (.isub, 1) := dz_at dqX7_readNumber_p210 6 rfl
theorem dX7_readNumber_13 : decode cX7_readNumber 13 = .ok (.istore_n 3, 1) := dz_at dqX7_readNumber_p210 7 rfl
theorem dX7_readNumber_14 : decode cX7_readNumber 14 = .ok (.iload_n 3, 1) := dz_at dqX7_readNumber_p210 8 rfl
theorem dX7_readNumber_15 : decode cX7_readNumber 15 = .ok (.iconst 1, 1) := dz_at dqX7_readNumber_p210 9 rfl
theorem dX7_readNumber_16 : decode cX7_readNumber 16 = .ok (.if_icmp .lt 24, 3) := dz_at dqX7_readNumber_p210 10 rfl
theorem dX7_readNumber_19 : decode cX7_readNumber 19 = .ok (.iload_n 3, 1) := dz_at dqX7_readNumber_p210 11 rfl
theorem dX7_readNumber_20 : decode cX7_readNumber 20 = .ok (.iconst 2, 1) := dz_at dqX7_readNumber_p210 12 rfl
theorem dX7_readNumber_21 : decode cX7_readNumber 21 = .ok (.if_icmp .gt 19, 3) := dz_at dqX7_readNumber_p210 13 rfl
set_option maxRecDepth 20000 in
theorem dqX7_readNumber_p211 : dz_rn 24 (cX7_readNumber.data.toList.drop 24) [(0, 4), (3, 0), (0, 4), (3, 0), (0, 10), (3, 2), (0, 14), (4, 1), (0, 13), (0, 12), (0, 8), (1, 1), (0, 4), (3, 0)] = some [(24, .aload_n 0, 1), (25, .getfield 9, 3), (28, .aload_n 0, 1), (29, .getfield 33, 3), (32, .iaload, 1), (33, .invokestatic 76, 3), (36, .iconst 2, 1), (37, .if_icmp .eq 5, 3), (40, .iconst (-1), 1), (41, .ireturn, 1), (42, .iconst 0, 1), (43, .istore 4, 2), (45, .aload_n 0, 1), (46, .getfield 33, 3)] := by decide +kernel
theorem dX7_readNumber_24 : decode cX7_readNumber 24 = .ok (.aload_n 0, 1) := dz_at dqX7_readNumber_p211 0 rfl
theorem dX7_readNumber_25 : decode cX7_readNumber 25 = .ok (.getfield 9, 3) := dz_at dqX7_readNumber_p211 1 rfl
theorem dX7_readNumber_28 : decode cX7_readNumber 28 = .ok (.aload_n 0, 1) := dz_at dqX7_readNumber_p211 2 rfl
theorem dX7_readNumber_29 : decode cX7_readNumber 29 = .ok (.getfield 33, 3) := dz_at dqX7_readNumber_p211 3 rfl
theorem dX7_readNumber_32 : decode cX7_readNumber 32 = .ok (.iaload, 1) := dz_at dqX7_readNumber_p211 4 rfl
theorem dX7_readNumber_33 : decode cX7_readNumber 33 = .ok (.invokestatic 76, 3) := dz_at dqX7_readNumber_p211 5 rfl
theorem dX7_readNumber_36 : decode cX7_readNumber 36 = .ok (.iconst 2, 1) := dz_at dqX7_readNumber_p211 6 rfl
theorem dX7_readNumber_37 : decode cX7_readNumber 37 = .ok (.if_icmp .eq 5, 3) := dz_at dqX7_readNumber_p211 7 rfl
theorem dX7_readNumber_40 : decode cX7_readNumber 40 = .ok (.iconst (-1), 1) := dz_at dqX7_readNumber_p211 8 rfl
theorem dX7_readNumber_41 : decode cX7_readNumber 41 = .ok (.ireturn, 1) := dz_at dqX7_readNumber_p211 9 rfl
theorem dX7_readNumber_42 : decode cX7_readNumber 42 = .ok (.iconst 0, 1) := dz_at dqX7_readNumber_p211 10 rfl
theorem dX7_readNumber_43 : decode cX7_readNumber 43 = .ok (.istore 4, 2) := dz_at dqX7_readNumber_p211 11 rfl
theorem dX7_readNumber_45 : decode cX7_readNumber 45 = .ok (.aload_n 0, 1) := dz_at dqX7_readNumber_p211 12 rfl
theorem dX7_readNumber_46 : decode cX7_readNumber 46 = .ok (.getfield 33, 3) := dz_at dqX7_readNumber_p211 13 rfl
set_option maxRecDepth 20000 in
theorem dqX7_readNumber_p212 : dz_rn 49 (cX7_readNumber.data.toList.drop 49) [(1, 1), (1, 0), (0, 4), (3, 0), (4, 4), (1, 0), (2, 0), (0, 23), (0, 4), (3, 0), (1, 0), (0, 10), (0, 11), (2, 0)] = some [(49, .istore 5, 2), (51, .iload 5, 2), (53, .aload_n 0, 1), (54, .getfield 26, 3), (57, .if_icmp .ge 27, 3), (60, .iload 4, 2), (62, .bipush 10, 2), (64, .imul, 1), (65, .aload_n 0, 1), (66, .getfield 9, 3), (69, .iload 5, 2), (71, .iaload, 1), (72, .iadd, 1), (73, .bipush 48, 2)] := by decide +kernel
theorem dX7_readNumber_49 : decode cX7_readNumber 49 = .ok (.istore 5, 2) := dz_at dqX7_readNumber_p212 0 rfl
theorem dX7_readNumber_51 : decode cX7_readNumber 51 = .ok (.iload 5, 2) := dz_at dqX7_readNumber_p212 1 rfl
theorem dX7_readNumber_53 : decode cX7_readNumber 53 = .ok (.aload_n 0, 1) := dz_at dqX7_readNumber_p212 2 rfl
theorem dX7_readNumber_54 : decode cX7_readNumber 54 = .ok (.getfield 26, 3) := dz_at dqX7_readNumber_p212 3 rfl
theorem dX7_readNumber_57 : decode cX7_readNumber 57 = .ok (.if_icmp .ge 27, 3) := dz_at dqX7_readNumber_p212 4 rfl
theorem dX7_readNumber_60 : decode cX7_readNumber 60 = .ok (.iload 4, 2) := dz_at dqX7_readNumber_p212 5 rfl
theorem dX7_readNumber_62 : decode cX7_readNumber 62 = .ok (.bipush 10, 2) := dz_at dqX7_readNumber_p212 6 rfl
theorem dX7_readNumber_64 : decode cX7_readNumber 64 = .ok (.imul, 1) := dz_at dqX7_readNumber_p212 7 rfl
theorem dX7_readNumber_65 : decode cX7_readNumber 65 = .ok (.aload_n 0, 1) := dz_at dqX7_readNumber_p212 8 rfl
theorem dX7_readNumber_66 : decode cX7_readNumber 66 = .ok (.getfield 9, 3) := dz_at dqX7_readNumber_p212 9 rfl
theorem dX7_readNumber_69 : decode cX7_readNumber 69 = .ok (.iload 5, 2) := dz_at dqX7_readNumber_p212 10 rfl
theorem dX7_readNumber_71 : decode cX7_readNumber 71 = .ok (.iaload, 1) := dz_at dqX7_readNumber_p212 11 rfl
theorem dX7_readNumber_72 : decode cX7_readNumber 72 = .ok (.iadd, 1) := dz_at dqX7_readNumber_p212 12 rfl
theorem dX7_readNumber_73 : decode cX7_readNumber 73 = .ok (.bipush 48, 2) := dz_at dqX7_readNumber_p212 13 rfl
set_option maxRecDepth 20000 in
theorem dqX7_readNumber_p213 : dz_rn 75 (cX7_readNumber.data.toList.drop 75) [(0, 26), (1, 1), (5, 0), (4, 0), (1, 0), (0, 1), (0, 2), (3, 2), (4, 7), (1, 0), (4, 0), (0, 13), (0, 12)] = some [(75, .isub, 1), (76, .istore 4, 2), (78, .iinc 5 1, 3), (81, .goto (-30), 3), (84, .iload 4, 2), (86, .iload_n 1, 1), (87, .iload_n 2, 1), (88, .invokestatic 80, 3), (91, .ifCond .eq 8, 3), (94, .iload 4, 2), (96, .goto 4, 3), (99, .iconst (-1), 1), (100, .ireturn, 1)] := by decide +kernel
theorem dX7_readNumber_75 : decode cX7_readNumber 75 = .ok (.isub, 1) := dz_at dqX7_readNumber_p213 0 rfl
theorem dX7_readNumber_76 : decode cX7_readNumber 76 = .ok (.istore 4, 2) := dz_at dqX7_readNumber_p213 1 rfl
theorem dX7_readNumber_78 : decode cX7_readNumber 78 = .ok (.iinc 5 1, 3) := dz_at dqX7_readNumber_p213 2 rfl
theorem dX7_readNumber_81 : decode cX7_readNumber 81 = .ok (.goto (-30), 3) := dz_at dqX7_readNumber_p213 3 rfl
theorem dX7_readNumber_84 : decode cX7_readNumber 84 = .ok (.iload 4, 2) := dz_at dqX7_readNumber_p213 4 rfl
theorem dX7_readNumber_86 : decode cX7_readNumber 86 = .ok (.iload_n 1, 1) := dz_at dqX7_readNumber_p213 5 rfl
theorem dX7_readNumber_87 : decode cX7_readNumber 87 = .ok (.iload_n 2, 1) := dz_at dqX7_readNumber_p213 6 rfl
theorem dX7_readNumber_88 : decode cX7_readNumber 88 = .ok (.invokestatic 80, 3) := dz_at dqX7_readNumber_p213 7 rfl
theorem dX7_readNumber_91 : decode cX7_readNumber 91 = .ok (.ifCond .eq 8, 3) := dz_at dqX7_readNumber_p213 8 rfl
theorem dX7_readNumber_94 : decode cX7_readNumber 94 = .ok (.iload 4, 2) := dz_at dqX7_readNumber_p213 9 rfl
theorem dX7_readNumber_96 : decode cX7_readNumber 96 = .ok (.goto 4, 3) := dz_at dqX7_readNumber_p213 10 rfl
theorem dX7_readNumber_99 : decode cX7_readNumber 99 = .ok (.iconst (-1), 1) := dz_at dqX7_readNumber_p213 11 rfl
theorem dX7_readNumber_100 : decode cX7_readNumber 100 = .ok (.ireturn, 1) := dz_at dqX7_readNumber_p213 12 rfl
set_option maxRecDepth 20000 in
theorem ggX7_nextToken_X7_kindOf : GoodIn wsX7_nextToken wsX7_kindOf := goodIn_r _ [8, 9, 10, 11] rfl (by decide +kernel)
set_option maxRecDepth 20000 in
theorem gX7_nextToken_X7_kindOf : GoodIn wsX7_nextToken (va_wsS RX7 76 yX7_kindOf wsX7_kindOf) := goodIn_app (goodIn_of _ (by decide +kernel)) ggX7_nextToken_X7_kindOf
set_option maxRecDepth 20000 in
theorem dqX7_nextToken_p210 : dz_rn 0 (cX7_nextToken.data.toList.drop 0) [(0, 4), (3, 0), (0, 19), (0, 1), (0, 4), (3, 0), (4, 4), (0, 4), (3, 0), (0, 1), (0, 10), (2, 0), (4, 2), (5, 0)] = some [(0, .aload_n 0, 1), (1, .getfield 26, 3), (4, .istore_n 1, 1), (5, .iload_n 1, 1), (6, .aload_n 0, 1), (7, .getfield 15, 3), (10, .if_icmp .ge 20, 3), (13, .aload_n 0, 1), (14, .getfield 9, 3), (17, .iload_n 1, 1), (18, .iaload, 1), (19, .bipush 32, 2), (21, .if_icmp .ne 9, 3), (24, .iinc 1 1, 3)] := by decide +kernel
theorem dX7_nextToken_0 : decode cX7_nextToken 0 = .ok (.aload_n 0, 1) := dz_at dqX7_nextToken_p210 0 rfl
theorem dX7_nextToken_1 : decode cX7_nextToken 1 = .ok (.getfield 26, 3) := dz_at dqX7_nextToken_p210 1 rfl
theorem dX7_nextToken_4 : decode cX7_nextToken 4 = .ok (.istore_n 1, 1) := dz_at dqX7_nextToken_p210 2 rfl
theorem dX7_nextToken_5 : decode cX7_nextToken 5 = .ok (.iload_n 1, 1) := dz_at dqX7_nextToken_p210 3 rfl
theorem dX7_nextToken_6 : decode cX7_nextToken 6 = .ok (.aload_n 0, 1) := dz_at dqX7_nextToken_p210 4 rfl
theorem dX7_nextToken_7 : decode cX7_nextToken 7 = .ok (.getfield 15, 3) := dz_at dqX7_nextToken_p210 5 rfl
theorem dX7_nextToken_10 : decode cX7_nextToken 10 = .ok (.if_icmp .ge 20, 3) := dz_at dqX7_nextToken_p210 6 rfl
theorem dX7_nextToken_13 : decode cX7_nextToken 13 = .ok (.aload_n 0, 1) := dz_at dqX7_nextToken_p210 7 rfl
theorem dX7_nextToken_14 : decode cX7_nextToken 14 = .ok (.getfield 9, 3) := dz_at dqX7_nextToken_p210 8 rfl
theorem dX7_nextToken_17 : decode cX7_nextToken 17 = .ok (.iload_n 1, 1) := dz_at dqX7_nextToken_p210 9 rfl
theorem dX7_nextToken_18 : decode cX7_nextToken 18 = .ok (.iaload, 1) := dz_at dqX7_nextToken_p210 10 rfl
theorem dX7_nextToken_19 : decode cX7_nextToken 19 = .ok (.bipush 32, 2) := dz_at dqX7_nextToken_p210 11 rfl
theorem dX7_nextToken_21 : decode cX7_nextToken 21 = .ok (.if_icmp .ne 9, 3) := dz_at dqX7_nextToken_p210 12 rfl
theorem dX7_nextToken_24 : decode cX7_nextToken 24 = .ok (.iinc 1 1, 3) := dz_at dqX7_nextToken_p210 13 rfl
set_option maxRecDepth 20000 in
theorem dqX7_nextToken_p211 : dz_rn 27 (cX7_nextToken.data.toList.drop 27) [(4, 0), (0, 4), (0, 1), (3, 3), (0, 1), (0, 4), (3, 0), (4, 4), (0, 4), (3, 0), (0, 1), (0, 10), (3, 2), (0, 20)] = some [(27, .goto (-22), 3), (30, .aload_n 0, 1), (31, .iload_n 1, 1), (32, .putfield 33, 3), (35, .iload_n 1, 1), (36, .aload_n 0, 1), (37, .getfield 15, 3), (40, .if_icmp .ge 48, 3), (43, .aload_n 0, 1), (44, .getfield 9, 3), (47, .iload_n 1, 1), (48, .iaload, 1), (49, .invokestatic 76, 3), (52, .istore_n 2, 1)] := by decide +kernel
theorem dX7_nextToken_27 : decode cX7_nextToken 27 = .ok (.goto (-22), 3) := dz_at dqX7_nextToken_p211 0 rfl
theorem dX7_nextToken_30 : decode cX7_nextToken 30 = .ok (.aload_n 0, 1) := dz_at dqX7_nextToken_p211 1 rfl
theorem dX7_nextToken_31 : decode cX7_nextToken 31 = .ok (.iload_n 1, 1) := dz_at dqX7_nextToken_p211 2 rfl
theorem dX7_nextToken_32 : decode cX7_nextToken 32 = .ok (.putfield 33, 3) := dz_at dqX7_nextToken_p211 3 rfl
theorem dX7_nextToken_35 : decode cX7_nextToken 35 = .ok (.iload_n 1, 1) := dz_at dqX7_nextToken_p211 4 rfl
theorem dX7_nextToken_36 : decode cX7_nextToken 36 = .ok (.aload_n 0, 1) := dz_at dqX7_nextToken_p211 5 rfl
theorem dX7_nextToken_37 : decode cX7_nextToken 37 = .ok (.getfield 15, 3) := dz_at dqX7_nextToken_p211 6 rfl
theorem dX7_nextToken_40 : decode cX7_nextToken 40 = .ok (.if_icmp .ge 48, 3) := dz_at dqX7_nextToken_p211 7 rfl
theorem dX7_nextToken_43 : decode cX7_nextToken 43 = .ok (.aload_n 0, 1) := dz_at dqX7_nextToken_p211 8 rfl
theorem dX7_nextToken_44 : decode cX7_nextToken 44 = .ok (.getfield 9, 3) := dz_at dqX7_nextToken_p211 9 rfl
theorem dX7_nextToken_47 : decode cX7_nextToken 47 = .ok (.iload_n 1, 1) := dz_at dqX7_nextToken_p211 10 rfl
theorem dX7_nextToken_48 : decode cX7_nextToken 48 = .ok (.iaload, 1) := dz_at dqX7_nextToken_p211 11 rfl
theorem dX7_nextToken_49 : decode cX7_nextToken 49 = .ok (.invokestatic 76, 3) := dz_at dqX7_nextToken_p211 12 rfl
theorem dX7_nextToken_52 : decode cX7_nextToken 52 = .ok (.istore_n 2, 1) := dz_at dqX7_nextToken_p211 13 rfl
set_option maxRecDepth 20000 in
theorem dqX7_nextToken_p212 : dz_rn 53 (cX7_nextToken.data.toList.drop 53) [(5, 0), (0, 2), (0, 15), (4, 1), (0, 1), (0, 4), (3, 0), (4, 4), (0, 4), (3, 0), (0, 1), (0, 10), (3, 2), (0, 2)] = some [(53, .iinc 1 1, 3), (56, .iload_n 2, 1), (57, .iconst 3, 1), (58, .if_icmp .eq 30, 3), (61, .iload_n 1, 1), (62, .aload_n 0, 1), (63, .getfield 15, 3), (66, .if_icmp .ge 22, 3), (69, .aload_n 0, 1), (70, .getfield 9, 3), (73, .iload_n 1, 1), (74, .iaload, 1), (75, .invokestatic 76, 3), (78, .iload_n 2, 1)] := by decide +kernel
theorem dX7_nextToken_53 : decode cX7_nextToken 53 = .ok (.iinc 1 1, 3) := dz_at dqX7_nextToken_p212 0 rfl
theorem dX7_nextToken_56 : decode cX7_nextToken 56 = .ok (.iload_n 2, 1) := dz_at dqX7_nextToken_p212 1 rfl
theorem dX7_nextToken_57 : decode cX7_nextToken 57 = .ok (.iconst 3, 1) := dz_at dqX7_nextToken_p212 2 rfl
theorem dX7_nextToken_58 : decode cX7_nextToken 58 = .ok (.if_icmp .eq 30, 3) := dz_at dqX7_nextToken_p212 3 rfl
theorem dX7_nextToken_61 : decode cX7_nextToken 61 = .ok (.iload_n 1, 1) := dz_at dqX7_nextToken_p212 4 rfl
theorem dX7_nextToken_62 : decode cX7_nextToken 62 = .ok (.aload_n 0, 1) := dz_at dqX7_nextToken_p212 5 rfl
theorem dX7_nextToken_63 : decode cX7_nextToken 63 = .ok (.getfield 15, 3) := dz_at dqX7_nextToken_p212 6 rfl
theorem dX7_nextToken_66 : decode cX7_nextToken 66 = .ok (.if_icmp .ge 22, 3) := dz_at dqX7_nextToken_p212 7 rfl
theorem dX7_nextToken_69 : decode cX7_nextToken 69 = .ok (.aload_n 0, 1) := dz_at dqX7_nextToken_p212 8 rfl
theorem dX7_nextToken_70 : decode cX7_nextToken 70 = .ok (.getfield 9, 3) := dz_at dqX7_nextToken_p212 9 rfl
theorem dX7_nextToken_73 : decode cX7_nextToken 73 = .ok (.iload_n 1, 1) := dz_at dqX7_nextToken_p212 10 rfl
theorem dX7_nextToken_74 : decode cX7_nextToken 74 = .ok (.iaload, 1) := dz_at dqX7_nextToken_p212 11 rfl
theorem dX7_nextToken_75 : decode cX7_nextToken 75 = .ok (.invokestatic 76, 3) := dz_at dqX7_nextToken_p212 12 rfl
theorem dX7_nextToken_78 : decode cX7_nextToken 78 = .ok (.iload_n 2, 1) := dz_at dqX7_nextToken_p212 13 rfl
set_option maxRecDepth 20000 in
theorem dqX7_nextToken_p213 : dz_rn 79 (cX7_nextToken.data.toList.drop 79) [(4, 2), (5, 0), (4, 0), (0, 4), (0, 1), (3, 3), (0, 25)] = some [(79, .if_icmp .ne 9, 3), (82, .iinc 1 1, 3), (85, .goto (-29), 3), (88, .aload_n 0, 1), (89, .iload_n 1, 1), (90, .putfield 26, 3), (93, .return_, 1)] := by decide +kernel
theorem dX7_nextToken_79 : decode cX7_nextToken 79 = .ok (.if_icmp .ne 9, 3) := dz_at dqX7_nextToken_p213 0 rfl
theorem dX7_nextToken_82 : decode cX7_nextToken 82 = .ok (.iinc 1 1, 3) := dz_at dqX7_nextToken_p213 1 rfl
theorem dX7_nextToken_85 : decode cX7_nextToken 85 = .ok (.goto (-29), 3) := dz_at dqX7_nextToken_p213 2 rfl
theorem dX7_nextToken_88 : decode cX7_nextToken 88 = .ok (.aload_n 0, 1) := dz_at dqX7_nextToken_p213 3 rfl
theorem dX7_nextToken_89 : decode cX7_nextToken 89 = .ok (.iload_n 1, 1) := dz_at dqX7_nextToken_p213 4 rfl
theorem dX7_nextToken_90 : decode cX7_nextToken 90 = .ok (.putfield 26, 3) := dz_at dqX7_nextToken_p213 5 rfl
theorem dX7_nextToken_93 : decode cX7_nextToken 93 = .ok (.return_, 1) := dz_at dqX7_nextToken_p213 6 rfl
set_option maxRecDepth 20000 in
theorem ggX7_tokenIs_J0_length_8abf5 : GoodIn wsX7_tokenIs wsJ0_length_8abf5 := goodIn_r _ [8, 9, 10, 11, 12, 7, 13, 14, 15] rfl (by decide +kernel)
set_option maxRecDepth 20000 in
theorem gX7_tokenIs_J0_length_8abf5 : GoodIn wsX7_tokenIs (wsV RX7 84 RJ0 yJ0_length_8abf5 wsJ0_length_8abf5) := goodIn_app (goodIn_of _ (by decide +kernel)) ggX7_tokenIs_J0_length_8abf5
set_option maxRecDepth 20000 in
theorem ggX7_tokenIs_J0_charAt_5068e : GoodIn wsX7_tokenIs wsJ0_charAt_5068e := goodIn_r _ [19, 9, 20, 21, 22, 7, 23, 14, 15, 24, 25, 26, 27, 28, 29, 30, 31, 32, 33, 34, 35, 36, 37, 38, 39, 40, 41, 42, 43, 44, 45, 46, 47, 48, 49, 50, 51, 52] rfl (by decide +kernel)
set_option maxRecDepth 20000 in
theorem gX7_tokenIs_J0_charAt_5068e : GoodIn wsX7_tokenIs (wsV RX7 89 RJ0 yJ0_charAt_5068e wsJ0_charAt_5068e) := goodIn_app (goodIn_of _ (by decide +kernel)) ggX7_tokenIs_J0_charAt_5068e
set_option maxRecDepth 20000 in
theorem dqX7_tokenIs_p210 : dz_rn 0 (cX7_tokenIs.data.toList.drop 0) [(0, 4), (3, 0), (0, 4), (3, 0), (0, 26), (0, 5), (3, 1), (4, 1), (0, 8), (0, 12), (0, 8), (0, 20), (0, 2), (0, 5)] = some [(0, .aload_n 0, 1), (1, .getfield 26, 3), (4, .aload_n 0, 1), (5, .getfield 33, 3), (8, .isub, 1), (9, .aload_n 1, 1), (10, .invokevirtual 84, 3), (13, .if_icmp .eq 5, 3), (16, .iconst 0, 1), (17, .ireturn, 1), (18, .iconst 0, 1), (19, .istore_n 2, 1), (20, .iload_n 2, 1), (21, .aload_n 1, 1)] := by decide +kernel
theorem dX7_tokenIs_0 : decode cX7_tokenIs 0 = .ok (.aload_n 0, 1) := dz_at dqX7_tokenIs_p210 0 rfl
theorem dX7_tokenIs_1 : decode cX7_tokenIs 1 = .ok (.getfield 26, 3) := dz_at dqX7_tokenIs_p210 1 rfl
theorem dX7_tokenIs_4 : decode cX7_tokenIs 4 = .ok (.aload_n 0, 1) := dz_at dqX7_tokenIs_p210 2 rfl
theorem dX7_tokenIs_5 : decode cX7_tokenIs 5 = .ok (.getfield 33, 3) := dz_at dqX7_tokenIs_p210 3 rfl
theorem dX7_tokenIs_8 : decode cX7_tokenIs 8 = .ok (.isub, 1) := dz_at dqX7_tokenIs_p210 4 rfl
theorem dX7_tokenIs_9 : decode cX7_tokenIs 9 = .ok (.aload_n 1, 1) := dz_at dqX7_tokenIs_p210 5 rfl
theorem dX7_tokenIs_10 : decode cX7_tokenIs 10 = .ok (.invokevirtual 84, 3) := dz_at dqX7_tokenIs_p210 6 rfl
theorem dX7_tokenIs_13 : decode cX7_tokenIs 13 = .ok (.if_icmp .eq 5, 3) := dz_at dqX7_tokenIs_p210 7 rfl
theorem dX7_tokenIs_16 : decode cX7_tokenIs 16 = .ok (.iconst 0, 1) := dz_at dqX7_tokenIs_p210 8 rfl
theorem dX7_tokenIs_17 : decode cX7_tokenIs 17 = .ok (.ireturn, 1) := dz_at dqX7_tokenIs_p210 9 rfl
theorem dX7_tokenIs_18 : decode cX7_tokenIs 18 = .ok (.iconst 0, 1) := dz_at dqX7_tokenIs_p210 10 rfl
theorem dX7_tokenIs_19 : decode cX7_tokenIs 19 = .ok (.istore_n 2, 1) := dz_at dqX7_tokenIs_p210 11 rfl
theorem dX7_tokenIs_20 : decode cX7_tokenIs 20 = .ok (.iload_n 2, 1) := dz_at dqX7_tokenIs_p210 12 rfl
theorem dX7_tokenIs_21 : decode cX7_tokenIs 21 = .ok (.aload_n 1, 1) := dz_at dqX7_tokenIs_p210 13 rfl
set_option maxRecDepth 20000 in
theorem dqX7_tokenIs_p211 : dz_rn 22 (cX7_tokenIs.data.toList.drop 22) [(3, 1), (4, 4), (0, 4), (3, 0), (0, 4), (3, 0), (0, 2), (0, 11), (0, 10), (0, 5), (0, 2), (3, 1), (4, 1), (0, 8)] = some [(22, .invokevirtual 84, 3), (25, .if_icmp .ge 30, 3), (28, .aload_n 0, 1), (29, .getfield 9, 3), (32, .aload_n 0, 1), (33, .getfield 33, 3), (36, .iload_n 2, 1), (37, .iadd, 1), (38, .iaload, 1), (39, .aload_n 1, 1), (40, .iload_n 2, 1), (41, .invokevirtual 89, 3), (44, .if_icmp .eq 5, 3), (47, .iconst 0, 1)] := by decide +kernel
theorem dX7_tokenIs_22 : decode cX7_tokenIs 22 = .ok (.invokevirtual 84, 3) := dz_at dqX7_tokenIs_p211 0 rfl
theorem dX7_tokenIs_25 : decode cX7_tokenIs 25 = .ok (.if_icmp .ge 30, 3) := dz_at dqX7_tokenIs_p211 1 rfl
theorem dX7_tokenIs_28 : decode cX7_tokenIs 28 = .ok (.aload_n 0, 1) := dz_at dqX7_tokenIs_p211 2 rfl
theorem dX7_tokenIs_29 : decode cX7_tokenIs 29 = .ok (.getfield 9, 3) := dz_at dqX7_tokenIs_p211 3 rfl
theorem dX7_tokenIs_32 : decode cX7_tokenIs 32 = .ok (.aload_n 0, 1) := dz_at dqX7_tokenIs_p211 4 rfl
theorem dX7_tokenIs_33 : decode cX7_tokenIs 33 = .ok (.getfield 33, 3) := dz_at dqX7_tokenIs_p211 5 rfl
theorem dX7_tokenIs_36 : decode cX7_tokenIs 36 = .ok (.iload_n 2, 1) := dz_at dqX7_tokenIs_p211 6 rfl
theorem dX7_tokenIs_37 : decode cX7_tokenIs 37 = .ok (.iadd, 1) := dz_at dqX7_tokenIs_p211 7 rfl
theorem dX7_tokenIs_38 : decode cX7_tokenIs 38 = .ok (.iaload, 1) := dz_at dqX7_tokenIs_p211 8 rfl
theorem dX7_tokenIs_39 : decode cX7_tokenIs 39 = .ok (.aload_n 1, 1) := dz_at dqX7_tokenIs_p211 9 rfl
theorem dX7_tokenIs_40 : decode cX7_tokenIs 40 = .ok (.iload_n 2, 1) := dz_at dqX7_tokenIs_p211 10 rfl
theorem dX7_tokenIs_41 : decode cX7_tokenIs 41 = .ok (.invokevirtual 89, 3) := dz_at dqX7_tokenIs_p211 11 rfl
theorem dX7_tokenIs_44 : decode cX7_tokenIs 44 = .ok (.if_icmp .eq 5, 3) := dz_at dqX7_tokenIs_p211 12 rfl
theorem dX7_tokenIs_47 : decode cX7_tokenIs 47 = .ok (.iconst 0, 1) := dz_at dqX7_tokenIs_p211 13 rfl
set_option maxRecDepth 20000 in
theorem dqX7_tokenIs_p212 : dz_rn 48 (cX7_tokenIs.data.toList.drop 48) [(0, 12), (5, 0), (4, 0), (0, 9), (0, 12)] = some [(48, .ireturn, 1), (49, .iinc 2 1, 3), (52, .goto (-32), 3), (55, .iconst 1, 1), (56, .ireturn, 1)] := by decide +kernel
theorem dX7_tokenIs_48 : decode cX7_tokenIs 48 = .ok (.ireturn, 1) := dz_at dqX7_tokenIs_p212 0 rfl
theorem dX7_tokenIs_49 : decode cX7_tokenIs 49 = .ok (.iinc 2 1, 3) := dz_at dqX7_tokenIs_p212 1 rfl
theorem dX7_tokenIs_52 : decode cX7_tokenIs 52 = .ok (.goto (-32), 3) := dz_at dqX7_tokenIs_p212 2 rfl
theorem dX7_tokenIs_55 : decode cX7_tokenIs 55 = .ok (.iconst 1, 1) := dz_at dqX7_tokenIs_p212 3 rfl
theorem dX7_tokenIs_56 : decode cX7_tokenIs 56 = .ok (.ireturn, 1) := dz_at dqX7_tokenIs_p212 4 rfl
set_option maxRecDepth 20000 in
theorem ggX7_kindOf_X9_within : GoodIn wsX7_kindOf wsX9_within := goodIn_r _ [3] rfl (by decide +kernel)
set_option maxRecDepth 20000 in
theorem gX7_kindOf_X9_within_n80 : GoodIn wsX7_kindOf (wsX9_within) := ggX7_kindOf_X9_within
set_option maxRecDepth 20000 in
theorem dqX7_kindOf_p210 : dz_rn 0 (cX7_kindOf.data.toList.drop 0) [(0, 0), (2, 0), (2, 0), (3, 2), (4, 7), (0, 9), (0, 12), (0, 0), (2, 0), (2, 0), (3, 2), (4, 7), (0, 14), (4, 0)] = some [(0, .iload_n 0, 1), (1, .bipush 97, 2), (3, .bipush 122, 2), (5, .invokestatic 80, 3), (8, .ifCond .eq 5, 3), (11, .iconst 1, 1), (12, .ireturn, 1), (13, .iload_n 0, 1), (14, .bipush 48, 2), (16, .bipush 57, 2), (18, .invokestatic 80, 3), (21, .ifCond .eq 7, 3), (24, .iconst 2, 1), (25, .goto 4, 3)] := by decide +kernel
theorem dX7_kindOf_0 : decode cX7_kindOf 0 = .ok (.iload_n 0, 1) := dz_at dqX7_kindOf_p210 0 rfl
theorem dX7_kindOf_1 : decode cX7_kindOf 1 = .ok (.bipush 97, 2) := dz_at dqX7_kindOf_p210 1 rfl
theorem dX7_kindOf_3 : decode cX7_kindOf 3 = .ok (.bipush 122, 2) := dz_at dqX7_kindOf_p210 2 rfl
theorem dX7_kindOf_5 : decode cX7_kindOf 5 = .ok (.invokestatic 80, 3) := dz_at dqX7_kindOf_p210 3 rfl
theorem dX7_kindOf_8 : decode cX7_kindOf 8 = .ok (.ifCond .eq 5, 3) := dz_at dqX7_kindOf_p210 4 rfl
theorem dX7_kindOf_11 : decode cX7_kindOf 11 = .ok (.iconst 1, 1) := dz_at dqX7_kindOf_p210 5 rfl
theorem dX7_kindOf_12 : decode cX7_kindOf 12 = .ok (.ireturn, 1) := dz_at dqX7_kindOf_p210 6 rfl
theorem dX7_kindOf_13 : decode cX7_kindOf 13 = .ok (.iload_n 0, 1) := dz_at dqX7_kindOf_p210 7 rfl
theorem dX7_kindOf_14 : decode cX7_kindOf 14 = .ok (.bipush 48, 2) := dz_at dqX7_kindOf_p210 8 rfl
theorem dX7_kindOf_16 : decode cX7_kindOf 16 = .ok (.bipush 57, 2) := dz_at dqX7_kindOf_p210 9 rfl
theorem dX7_kindOf_18 : decode cX7_kindOf 18 = .ok (.invokestatic 80, 3) := dz_at dqX7_kindOf_p210 10 rfl
theorem dX7_kindOf_21 : decode cX7_kindOf 21 = .ok (.ifCond .eq 7, 3) := dz_at dqX7_kindOf_p210 11 rfl
theorem dX7_kindOf_24 : decode cX7_kindOf 24 = .ok (.iconst 2, 1) := dz_at dqX7_kindOf_p210 12 rfl
theorem dX7_kindOf_25 : decode cX7_kindOf 25 = .ok (.goto 4, 3) := dz_at dqX7_kindOf_p210 13 rfl
set_option maxRecDepth 20000 in
theorem dqX7_kindOf_p211 : dz_rn 28 (cX7_kindOf.data.toList.drop 28) [(0, 15), (0, 12)] = some [(28, .iconst 3, 1), (29, .ireturn, 1)] := by decide +kernel
theorem dX7_kindOf_28 : decode cX7_kindOf 28 = .ok (.iconst 3, 1) := dz_at dqX7_kindOf_p211 0 rfl
theorem dX7_kindOf_29 : decode cX7_kindOf 29 = .ok (.ireturn, 1) := dz_at dqX7_kindOf_p211 1 rfl
end
