set_option maxRecDepth 20000 in
theorem dqX3_init_p070 : dz_rn 0 (cX3_init.data.toList.drop 0) [(0, 4), (3, 5), (0, 4), (0, 16)] = some [(0, .aload_n 0, 1), (1, .invokespecial 3, 3), (4, .aload_n 0, 1), (5, .iconst 4, 1)] := by decide +kernel
theorem dX3_init_0 : decode cX3_init 0 = .ok (.aload_n 0, 1) := dz_at dqX3_init_p070 0 rfl
theorem dX3_init_1 : decode cX3_init 1 = .ok (.invokespecial 3, 3) := dz_at dqX3_init_p070 1 rfl
theorem dX3_init_4 : decode cX3_init 4 = .ok (.aload_n 0, 1) := dz_at dqX3_init_p070 2 rfl
theorem dX3_init_5 : decode cX3_init 5 = .ok (.iconst 4, 1) := dz_at dqX3_init_p070 3 rfl
theorem dX3_init_6 : decode cX3_init 6 = .ok (.newarray .int, 2) := by decide +kernel
set_option maxRecDepth 20000 in
theorem dqX3_init_p071 : dz_rn 8 (cX3_init.data.toList.drop 8) [(3, 3), (0, 4), (0, 16)] = some [(8, .putfield 9, 3), (11, .aload_n 0, 1), (12, .iconst 4, 1)] := by decide +kernel
theorem dX3_init_8 : decode cX3_init 8 = .ok (.putfield 9, 3) := dz_at dqX3_init_p071 0 rfl
theorem dX3_init_11 : decode cX3_init 11 = .ok (.aload_n 0, 1) := dz_at dqX3_init_p071 1 rfl
theorem dX3_init_12 : decode cX3_init 12 = .ok (.iconst 4, 1) := dz_at dqX3_init_p071 2 rfl
theorem dX3_init_13 : decode cX3_init 13 = .ok (.newarray .int, 2) := by decide +kernel
set_option maxRecDepth 20000 in
theorem dqX3_init_p072 : dz_rn 15 (cX3_init.data.toList.drop 15) [(3, 3), (0, 4), (0, 16)] = some [(15, .putfield 15, 3), (18, .aload_n 0, 1), (19, .iconst 4, 1)] := by decide +kernel
theorem dX3_init_15 : decode cX3_init 15 = .ok (.putfield 15, 3) := dz_at dqX3_init_p072 0 rfl
theorem dX3_init_18 : decode cX3_init 18 = .ok (.aload_n 0, 1) := dz_at dqX3_init_p072 1 rfl
theorem dX3_init_19 : decode cX3_init 19 = .ok (.iconst 4, 1) := dz_at dqX3_init_p072 2 rfl
theorem dX3_init_20 : decode cX3_init 20 = .ok (.newarray .int, 2) := by decide +kernel
set_option maxRecDepth 20000 in
theorem dqX3_init_p073 : dz_rn 22 (cX3_init.data.toList.drop 22) [(3, 3), (0, 4), (2, 0)] = some [(22, .putfield 18, 3), (25, .aload_n 0, 1), (26, .bipush 8, 2)] := by decide +kernel
theorem dX3_init_22 : decode cX3_init 22 = .ok (.putfield 18, 3) := dz_at dqX3_init_p073 0 rfl
theorem dX3_init_25 : decode cX3_init 25 = .ok (.aload_n 0, 1) := dz_at dqX3_init_p073 1 rfl
theorem dX3_init_26 : decode cX3_init 26 = .ok (.bipush 8, 2) := dz_at dqX3_init_p073 2 rfl
theorem dX3_init_28 : decode cX3_init 28 = .ok (.newarray .int, 2) := by decide +kernel
set_option maxRecDepth 20000 in
theorem dqX3_init_p074 : dz_rn 30 (cX3_init.data.toList.drop 30) [(3, 3), (0, 4), (2, 0)] = some [(30, .putfield 21, 3), (33, .aload_n 0, 1), (34, .bipush 8, 2)] := by decide +kernel
theorem dX3_init_30 : decode cX3_init 30 = .ok (.putfield 21, 3) := dz_at dqX3_init_p074 0 rfl
theorem dX3_init_33 : decode cX3_init 33 = .ok (.aload_n 0, 1) := dz_at dqX3_init_p074 1 rfl
theorem dX3_init_34 : decode cX3_init 34 = .ok (.bipush 8, 2) := dz_at dqX3_init_p074 2 rfl
theorem dX3_init_36 : decode cX3_init 36 = .ok (.newarray .int, 2) := by decide +kernel
set_option maxRecDepth 20000 in
theorem dqX3_init_p075 : dz_rn 38 (cX3_init.data.toList.drop 38) [(3, 3), (0, 4), (4, 13)] = some [(38, .putfield 24, 3), (41, .aload_n 0, 1), (42, .sipush 128, 3)] := by decide +kernel
theorem dX3_init_38 : decode cX3_init 38 = .ok (.putfield 24, 3) := dz_at dqX3_init_p075 0 rfl
theorem dX3_init_41 : decode cX3_init 41 = .ok (.aload_n 0, 1) := dz_at dqX3_init_p075 1 rfl
theorem dX3_init_42 : decode cX3_init 42 = .ok (.sipush 128, 3) := dz_at dqX3_init_p075 2 rfl
theorem dX3_init_45 : decode cX3_init 45 = .ok (.newarray .int, 2) := by decide +kernel
set_option maxRecDepth 20000 in
theorem dqX3_init_p076 : dz_rn 47 (cX3_init.data.toList.drop 47) [(3, 3), (0, 4), (0, 5), (3, 3), (0, 4), (0, 6), (3, 3), (0, 25)] = some [(47, .putfield 27, 3), (50, .aload_n 0, 1), (51, .aload_n 1, 1), (52, .putfield 30, 3), (55, .aload_n 0, 1), (56, .aload_n 2, 1), (57, .putfield 34, 3), (60, .return_, 1)] := by decide +kernel
theorem dX3_init_47 : decode cX3_init 47 = .ok (.putfield 27, 3) := dz_at dqX3_init_p076 0 rfl
theorem dX3_init_50 : decode cX3_init 50 = .ok (.aload_n 0, 1) := dz_at dqX3_init_p076 1 rfl
theorem dX3_init_51 : decode cX3_init 51 = .ok (.aload_n 1, 1) := dz_at dqX3_init_p076 2 rfl
theorem dX3_init_52 : decode cX3_init 52 = .ok (.putfield 30, 3) := dz_at dqX3_init_p076 3 rfl
theorem dX3_init_55 : decode cX3_init 55 = .ok (.aload_n 0, 1) := dz_at dqX3_init_p076 4 rfl
theorem dX3_init_56 : decode cX3_init 56 = .ok (.aload_n 2, 1) := dz_at dqX3_init_p076 5 rfl
theorem dX3_init_57 : decode cX3_init 57 = .ok (.putfield 34, 3) := dz_at dqX3_init_p076 6 rfl
theorem dX3_init_60 : decode cX3_init 60 = .ok (.return_, 1) := dz_at dqX3_init_p076 7 rfl
set_option maxRecDepth 20000 in
theorem ggX3_costOf_X8_between : GoodIn wsX3_costOf wsX8_between := goodIn_r _ [7, 8, 24, 25] rfl (by decide +kernel)
set_option maxRecDepth 20000 in
theorem gX3_costOf_X8_between : GoodIn wsX3_costOf (wsV RX3 38 RX8 yX8_between wsX8_between) := goodIn_app (goodIn_of _ (by decide +kernel)) ggX3_costOf_X8_between
set_option maxRecDepth 20000 in
theorem ggX3_costOf_X1_standingIn : GoodIn wsX3_costOf wsX1_standingIn := goodIn_r _ [13, 14, 26, 27, 28, 29, 30, 31, 32, 33, 34, 35, 36, 37, 38] rfl (by decide +kernel)
set_option maxRecDepth 20000 in
theorem gX3_costOf_X1_standingIn : GoodIn wsX3_costOf (wsV RX3 44 RX1 yX1_standingIn wsX1_standingIn) := goodIn_app (goodIn_of _ (by decide +kernel)) ggX3_costOf_X1_standingIn
set_option maxRecDepth 20000 in
theorem dqX3_costOf_p070 : dz_rn 0 (cX3_costOf.data.toList.drop 0) [(0, 4), (3, 0), (0, 8), (0, 1), (3, 1), (0, 20), (0, 2), (0, 13), (4, 2), (0, 13), (4, 0), (0, 14), (0, 2), (0, 23)] = some [(0, .aload_n 0, 1), (1, .getfield 34, 3), (4, .iconst 0, 1), (5, .iload_n 1, 1), (6, .invokevirtual 38, 3), (9, .istore_n 2, 1), (10, .iload_n 2, 1), (11, .iconst (-1), 1), (12, .if_icmp .ne 7, 3), (15, .iconst (-1), 1), (16, .goto 15, 3), (19, .iconst 2, 1), (20, .iload_n 2, 1), (21, .imul, 1)] := by decide +kernel
theorem dX3_costOf_0 : decode cX3_costOf 0 = .ok (.aload_n 0, 1) := dz_at dqX3_costOf_p070 0 rfl
theorem dX3_costOf_1 : decode cX3_costOf 1 = .ok (.getfield 34, 3) := dz_at dqX3_costOf_p070 1 rfl
theorem dX3_costOf_4 : decode cX3_costOf 4 = .ok (.iconst 0, 1) := dz_at dqX3_costOf_p070 2 rfl
theorem dX3_costOf_5 : decode cX3_costOf 5 = .ok (.iload_n 1, 1) := dz_at dqX3_costOf_p070 3 rfl
theorem dX3_costOf_6 : decode cX3_costOf 6 = .ok (.invokevirtual 38, 3) := dz_at dqX3_costOf_p070 4 rfl
theorem dX3_costOf_9 : decode cX3_costOf 9 = .ok (.istore_n 2, 1) := dz_at dqX3_costOf_p070 5 rfl
theorem dX3_costOf_10 : decode cX3_costOf 10 = .ok (.iload_n 2, 1) := dz_at dqX3_costOf_p070 6 rfl
theorem dX3_costOf_11 : decode cX3_costOf 11 = .ok (.iconst (-1), 1) := dz_at dqX3_costOf_p070 7 rfl
theorem dX3_costOf_12 : decode cX3_costOf 12 = .ok (.if_icmp .ne 7, 3) := dz_at dqX3_costOf_p070 8 rfl
theorem dX3_costOf_15 : decode cX3_costOf 15 = .ok (.iconst (-1), 1) := dz_at dqX3_costOf_p070 9 rfl
theorem dX3_costOf_16 : decode cX3_costOf 16 = .ok (.goto 15, 3) := dz_at dqX3_costOf_p070 10 rfl
theorem dX3_costOf_19 : decode cX3_costOf 19 = .ok (.iconst 2, 1) := dz_at dqX3_costOf_p070 11 rfl
theorem dX3_costOf_20 : decode cX3_costOf 20 = .ok (.iload_n 2, 1) := dz_at dqX3_costOf_p070 12 rfl
theorem dX3_costOf_21 : decode cX3_costOf 21 = .ok (.imul, 1) := dz_at dqX3_costOf_p070 13 rfl
set_option maxRecDepth 20000 in
theorem dqX3_costOf_p071 : dz_rn 22 (cX3_costOf.data.toList.drop 22) [(0, 4), (3, 0), (0, 1), (3, 1), (0, 11), (0, 12)] = some [(22, .aload_n 0, 1), (23, .getfield 30, 3), (26, .iload_n 1, 1), (27, .invokevirtual 44, 3), (30, .iadd, 1), (31, .ireturn, 1)] := by decide +kernel
theorem dX3_costOf_22 : decode cX3_costOf 22 = .ok (.aload_n 0, 1) := dz_at dqX3_costOf_p071 0 rfl
theorem dX3_costOf_23 : decode cX3_costOf 23 = .ok (.getfield 30, 3) := dz_at dqX3_costOf_p071 1 rfl
theorem dX3_costOf_26 : decode cX3_costOf 26 = .ok (.iload_n 1, 1) := dz_at dqX3_costOf_p071 2 rfl
theorem dX3_costOf_27 : decode cX3_costOf 27 = .ok (.invokevirtual 44, 3) := dz_at dqX3_costOf_p071 3 rfl
theorem dX3_costOf_30 : decode cX3_costOf 30 = .ok (.iadd, 1) := dz_at dqX3_costOf_p071 4 rfl
theorem dX3_costOf_31 : decode cX3_costOf 31 = .ok (.ireturn, 1) := dz_at dqX3_costOf_p071 5 rfl
set_option maxRecDepth 20000 in
theorem dqX3_takeMinutes_p070 : dz_rn 0 (cX3_takeMinutes.data.toList.drop 0) [(0, 8), (0, 21), (0, 3), (0, 2), (4, 4), (0, 4), (3, 0), (0, 3), (0, 1), (2, 0), (0, 3), (0, 23), (0, 32), (2, 0)] = some [(0, .iconst 0, 1), (1, .istore_n 3, 1), (2, .iload_n 3, 1), (3, .iload_n 2, 1), (4, .if_icmp .ge 37, 3), (7, .aload_n 0, 1), (8, .getfield 9, 3), (11, .iload_n 3, 1), (12, .iload_n 1, 1), (13, .bipush 7, 2), (15, .iload_n 3, 1), (16, .imul, 1), (17, .ishr, 1), (18, .bipush 127, 2)] := by decide +kernel
theorem dX3_takeMinutes_0 : decode cX3_takeMinutes 0 = .ok (.iconst 0, 1) := dz_at dqX3_takeMinutes_p070 0 rfl
theorem dX3_takeMinutes_1 : decode cX3_takeMinutes 1 = .ok (.istore_n 3, 1) := dz_at dqX3_takeMinutes_p070 1 rfl
theorem dX3_takeMinutes_2 : decode cX3_takeMinutes 2 = .ok (.iload_n 3, 1) := dz_at dqX3_takeMinutes_p070 2 rfl
theorem dX3_takeMinutes_3 : decode cX3_takeMinutes 3 = .ok (.iload_n 2, 1) := dz_at dqX3_takeMinutes_p070 3 rfl
theorem dX3_takeMinutes_4 : decode cX3_takeMinutes 4 = .ok (.if_icmp .ge 37, 3) := dz_at dqX3_takeMinutes_p070 4 rfl
theorem dX3_takeMinutes_7 : decode cX3_takeMinutes 7 = .ok (.aload_n 0, 1) := dz_at dqX3_takeMinutes_p070 5 rfl
theorem dX3_takeMinutes_8 : decode cX3_takeMinutes 8 = .ok (.getfield 9, 3) := dz_at dqX3_takeMinutes_p070 6 rfl
theorem dX3_takeMinutes_11 : decode cX3_takeMinutes 11 = .ok (.iload_n 3, 1) := dz_at dqX3_takeMinutes_p070 7 rfl
theorem dX3_takeMinutes_12 : decode cX3_takeMinutes 12 = .ok (.iload_n 1, 1) := dz_at dqX3_takeMinutes_p070 8 rfl
theorem dX3_takeMinutes_13 : decode cX3_takeMinutes 13 = .ok (.bipush 7, 2) := dz_at dqX3_takeMinutes_p070 9 rfl
theorem dX3_takeMinutes_15 : decode cX3_takeMinutes 15 = .ok (.iload_n 3, 1) := dz_at dqX3_takeMinutes_p070 10 rfl
theorem dX3_takeMinutes_16 : decode cX3_takeMinutes 16 = .ok (.imul, 1) := dz_at dqX3_takeMinutes_p070 11 rfl
theorem dX3_takeMinutes_17 : decode cX3_takeMinutes 17 = .ok (.ishr, 1) := dz_at dqX3_takeMinutes_p070 12 rfl
theorem dX3_takeMinutes_18 : decode cX3_takeMinutes 18 = .ok (.bipush 127, 2) := dz_at dqX3_takeMinutes_p070 13 rfl
set_option maxRecDepth 20000 in
theorem dqX3_takeMinutes_p071 : dz_rn 20 (cX3_takeMinutes.data.toList.drop 20) [(0, 29), (0, 22), (0, 4), (3, 0), (0, 3), (0, 10), (2, 0), (4, 6), (0, 8), (0, 12), (5, 0), (4, 0), (0, 9), (0, 12)] = some [(20, .iand, 1), (21, .iastore, 1), (22, .aload_n 0, 1), (23, .getfield 9, 3), (26, .iload_n 3, 1), (27, .iaload, 1), (28, .bipush 99, 2), (30, .if_icmp .le 5, 3), (33, .iconst 0, 1), (34, .ireturn, 1), (35, .iinc 3 1, 3), (38, .goto (-36), 3), (41, .iconst 1, 1), (42, .ireturn, 1)] := by decide +kernel
theorem dX3_takeMinutes_20 : decode cX3_takeMinutes 20 = .ok (.iand, 1) := dz_at dqX3_takeMinutes_p071 0 rfl
theorem dX3_takeMinutes_21 : decode cX3_takeMinutes 21 = .ok (.iastore, 1) := dz_at dqX3_takeMinutes_p071 1 rfl
theorem dX3_takeMinutes_22 : decode cX3_takeMinutes 22 = .ok (.aload_n 0, 1) := dz_at dqX3_takeMinutes_p071 2 rfl
theorem dX3_takeMinutes_23 : decode cX3_takeMinutes 23 = .ok (.getfield 9, 3) := dz_at dqX3_takeMinutes_p071 3 rfl
theorem dX3_takeMinutes_26 : decode cX3_takeMinutes 26 = .ok (.iload_n 3, 1) := dz_at dqX3_takeMinutes_p071 4 rfl
theorem dX3_takeMinutes_27 : decode cX3_takeMinutes 27 = .ok (.iaload, 1) := dz_at dqX3_takeMinutes_p071 5 rfl
theorem dX3_takeMinutes_28 : decode cX3_takeMinutes 28 = .ok (.bipush 99, 2) := dz_at dqX3_takeMinutes_p071 6 rfl
theorem dX3_takeMinutes_30 : decode cX3_takeMinutes 30 = .ok (.if_icmp .le 5, 3) := dz_at dqX3_takeMinutes_p071 7 rfl
theorem dX3_takeMinutes_33 : decode cX3_takeMinutes 33 = .ok (.iconst 0, 1) := dz_at dqX3_takeMinutes_p071 8 rfl
theorem dX3_takeMinutes_34 : decode cX3_takeMinutes 34 = .ok (.ireturn, 1) := dz_at dqX3_takeMinutes_p071 9 rfl
theorem dX3_takeMinutes_35 : decode cX3_takeMinutes 35 = .ok (.iinc 3 1, 3) := dz_at dqX3_takeMinutes_p071 10 rfl
theorem dX3_takeMinutes_38 : decode cX3_takeMinutes 38 = .ok (.goto (-36), 3) := dz_at dqX3_takeMinutes_p071 11 rfl
theorem dX3_takeMinutes_41 : decode cX3_takeMinutes 41 = .ok (.iconst 1, 1) := dz_at dqX3_takeMinutes_p071 12 rfl
theorem dX3_takeMinutes_42 : decode cX3_takeMinutes 42 = .ok (.ireturn, 1) := dz_at dqX3_takeMinutes_p071 13 rfl
set_option maxRecDepth 20000 in
theorem dqX3_takeRooms_p070 : dz_rn 0 (cX3_takeRooms.data.toList.drop 0) [(0, 8), (0, 21), (0, 3), (0, 2), (4, 4), (0, 4), (3, 0), (0, 3), (0, 1), (0, 16), (0, 3), (0, 23), (0, 32), (2, 0)] = some [(0, .iconst 0, 1), (1, .istore_n 3, 1), (2, .iload_n 3, 1), (3, .iload_n 2, 1), (4, .if_icmp .ge 36, 3), (7, .aload_n 0, 1), (8, .getfield 15, 3), (11, .iload_n 3, 1), (12, .iload_n 1, 1), (13, .iconst 4, 1), (14, .iload_n 3, 1), (15, .imul, 1), (16, .ishr, 1), (17, .bipush 15, 2)] := by decide +kernel
theorem dX3_takeRooms_0 : decode cX3_takeRooms 0 = .ok (.iconst 0, 1) := dz_at dqX3_takeRooms_p070 0 rfl
theorem dX3_takeRooms_1 : decode cX3_takeRooms 1 = .ok (.istore_n 3, 1) := dz_at dqX3_takeRooms_p070 1 rfl
theorem dX3_takeRooms_2 : decode cX3_takeRooms 2 = .ok (.iload_n 3, 1) := dz_at dqX3_takeRooms_p070 2 rfl
theorem dX3_takeRooms_3 : decode cX3_takeRooms 3 = .ok (.iload_n 2, 1) := dz_at dqX3_takeRooms_p070 3 rfl
theorem dX3_takeRooms_4 : decode cX3_takeRooms 4 = .ok (.if_icmp .ge 36, 3) := dz_at dqX3_takeRooms_p070 4 rfl
theorem dX3_takeRooms_7 : decode cX3_takeRooms 7 = .ok (.aload_n 0, 1) := dz_at dqX3_takeRooms_p070 5 rfl
theorem dX3_takeRooms_8 : decode cX3_takeRooms 8 = .ok (.getfield 15, 3) := dz_at dqX3_takeRooms_p070 6 rfl
theorem dX3_takeRooms_11 : decode cX3_takeRooms 11 = .ok (.iload_n 3, 1) := dz_at dqX3_takeRooms_p070 7 rfl
theorem dX3_takeRooms_12 : decode cX3_takeRooms 12 = .ok (.iload_n 1, 1) := dz_at dqX3_takeRooms_p070 8 rfl
theorem dX3_takeRooms_13 : decode cX3_takeRooms 13 = .ok (.iconst 4, 1) := dz_at dqX3_takeRooms_p070 9 rfl
theorem dX3_takeRooms_14 : decode cX3_takeRooms 14 = .ok (.iload_n 3, 1) := dz_at dqX3_takeRooms_p070 10 rfl
theorem dX3_takeRooms_15 : decode cX3_takeRooms 15 = .ok (.imul, 1) := dz_at dqX3_takeRooms_p070 11 rfl
theorem dX3_takeRooms_16 : decode cX3_takeRooms 16 = .ok (.ishr, 1) := dz_at dqX3_takeRooms_p070 12 rfl
theorem dX3_takeRooms_17 : decode cX3_takeRooms 17 = .ok (.bipush 15, 2) := dz_at dqX3_takeRooms_p070 13 rfl
set_option maxRecDepth 20000 in
theorem dqX3_takeRooms_p071 : dz_rn 19 (cX3_takeRooms.data.toList.drop 19) [(0, 29), (0, 22), (0, 4), (3, 0), (0, 3), (0, 10), (2, 0), (4, 6), (0, 8), (0, 12), (5, 0), (4, 0), (0, 9), (0, 12)] = some [(19, .iand, 1), (20, .iastore, 1), (21, .aload_n 0, 1), (22, .getfield 15, 3), (25, .iload_n 3, 1), (26, .iaload, 1), (27, .bipush 8, 2), (29, .if_icmp .le 5, 3), (32, .iconst 0, 1), (33, .ireturn, 1), (34, .iinc 3 1, 3), (37, .goto (-35), 3), (40, .iconst 1, 1), (41, .ireturn, 1)] := by decide +kernel
theorem dX3_takeRooms_19 : decode cX3_takeRooms 19 = .ok (.iand, 1) := dz_at dqX3_takeRooms_p071 0 rfl
theorem dX3_takeRooms_20 : decode cX3_takeRooms 20 = .ok (.iastore, 1) := dz_at dqX3_takeRooms_p071 1 rfl
theorem dX3_takeRooms_21 : decode cX3_takeRooms 21 = .ok (.aload_n 0, 1) := dz_at dqX3_takeRooms_p071 2 rfl
theorem dX3_takeRooms_22 : decode cX3_takeRooms 22 = .ok (.getfield 15, 3) := dz_at dqX3_takeRooms_p071 3 rfl
theorem dX3_takeRooms_25 : decode cX3_takeRooms 25 = .ok (.iload_n 3, 1) := dz_at dqX3_takeRooms_p071 4 rfl
theorem dX3_takeRooms_26 : decode cX3_takeRooms 26 = .ok (.iaload, 1) := dz_at dqX3_takeRooms_p071 5 rfl
theorem dX3_takeRooms_27 : decode cX3_takeRooms 27 = .ok (.bipush 8, 2) := dz_at dqX3_takeRooms_p071 6 rfl
theorem dX3_takeRooms_29 : decode cX3_takeRooms 29 = .ok (.if_icmp .le 5, 3) := dz_at dqX3_takeRooms_p071 7 rfl
theorem dX3_takeRooms_32 : decode cX3_takeRooms 32 = .ok (.iconst 0, 1) := dz_at dqX3_takeRooms_p071 8 rfl
theorem dX3_takeRooms_33 : decode cX3_takeRooms 33 = .ok (.ireturn, 1) := dz_at dqX3_takeRooms_p071 9 rfl
theorem dX3_takeRooms_34 : decode cX3_takeRooms 34 = .ok (.iinc 3 1, 3) := dz_at dqX3_takeRooms_p071 10 rfl
theorem dX3_takeRooms_37 : decode cX3_takeRooms 37 = .ok (.goto (-35), 3) := dz_at dqX3_takeRooms_p071 11 rfl
theorem dX3_takeRooms_40 : decode cX3_takeRooms 40 = .ok (.iconst 1, 1) := dz_at dqX3_takeRooms_p071 12 rfl
theorem dX3_takeRooms_41 : decode cX3_takeRooms 41 = .ok (.ireturn, 1) := dz_at dqX3_takeRooms_p071 13 rfl
set_option maxRecDepth 20000 in
theorem ggX3_strengthBehindTrial_X3_prepare : GoodIn wsX3_strengthBehindTrial wsX3_prepare := goodIn_r _ [7, 8, 9, 2, 10, 11, 12, 13, 14, 15, 16, 17, 18, 19, 20, 21, 22, 23, 24, 25, 26, 27, 28, 29, 30, 31, 32, 33, 34, 35, 36, 37, 38, 39, 40, 41, 42, 6, 43, 44, 45, 46, 47, 48, 49, 50, 51, 52, 53, 54, 89, 90, 91, 92, 93, 94, 95, 96, 97, 98, 99, 100, 101, 102, 103, 104, 105, 106, 107, 108, 109, 110, 111, 112, 113] rfl (by decide +kernel)
set_option maxRecDepth 20000 in
theorem gX3_strengthBehindTrial_X3_prepare : GoodIn wsX3_strengthBehindTrial (wsV RX3 50 RX3 yX3_prepare wsX3_prepare) := goodIn_app (goodIn_of _ (by decide +kernel)) ggX3_strengthBehindTrial_X3_prepare
set_option maxRecDepth 20000 in
theorem ggX3_strengthBehindTrial_X9_isRoom : GoodIn wsX3_strengthBehindTrial wsX9_isRoom := goodIn_r _ [57, 58, 59, 56, 60] rfl (by decide +kernel)
set_option maxRecDepth 20000 in
theorem gX3_strengthBehindTrial_X9_isRoom_n53 : GoodIn wsX3_strengthBehindTrial (wsX9_isRoom) := ggX3_strengthBehindTrial_X9_isRoom
set_option maxRecDepth 20000 in
theorem ggX3_strengthBehindTrial_X3_walkable : GoodIn wsX3_strengthBehindTrial wsX3_walkable := goodIn_r _ [64, 9, 65, 89, 90, 91, 92, 93, 94, 95, 96, 97] rfl (by decide +kernel)
set_option maxRecDepth 20000 in
theorem gX3_strengthBehindTrial_X3_walkable : GoodIn wsX3_strengthBehindTrial (wsV RX3 57 RX3 yX3_walkable wsX3_walkable) := goodIn_app (goodIn_of _ (by decide +kernel)) ggX3_strengthBehindTrial_X3_walkable
set_option maxRecDepth 20000 in
theorem ggX3_strengthBehindTrial_X3_strengthOfRoom : GoodIn wsX3_strengthBehindTrial wsX3_strengthOfRoom := goodIn_r _ [69, 8, 70, 71, 72, 13, 73, 74, 15, 75, 76, 77, 78, 79, 80, 81, 82, 83, 84, 85, 86, 87, 88, 89, 90, 91, 92, 93, 94, 95, 96, 97, 98, 99, 100, 101, 102, 103, 104, 105, 106, 107, 108, 109, 110] rfl (by decide +kernel)
set_option maxRecDepth 20000 in
theorem gX3_strengthBehindTrial_X3_strengthOfRoom : GoodIn wsX3_strengthBehindTrial (wsV RX3 61 RX3 yX3_strengthOfRoom wsX3_strengthOfRoom) := goodIn_app (goodIn_of _ (by decide +kernel)) ggX3_strengthBehindTrial_X3_strengthOfRoom
set_option maxRecDepth 20000 in
theorem dqX3_strengthBehindTrial_p070 : dz_rn 0 (cX3_strengthBehindTrial.data.toList.drop 0) [(0, 4), (3, 1), (0, 8), (0, 20), (0, 2), (0, 1), (4, 4), (0, 4), (3, 0), (0, 2), (0, 10), (0, 21), (0, 3), (3, 2)] = some [(0, .aload_n 0, 1), (1, .invokevirtual 50, 3), (4, .iconst 0, 1), (5, .istore_n 2, 1), (6, .iload_n 2, 1), (7, .iload_n 1, 1), (8, .if_icmp .ge 46, 3), (11, .aload_n 0, 1), (12, .getfield 15, 3), (15, .iload_n 2, 1), (16, .iaload, 1), (17, .istore_n 3, 1), (18, .iload_n 3, 1), (19, .invokestatic 53, 3)] := by decide +kernel
theorem dX3_strengthBehindTrial_0 : decode cX3_strengthBehindTrial 0 = .ok (.aload_n 0, 1) := dz_at dqX3_strengthBehindTrial_p070 0 rfl
theorem dX3_strengthBehindTrial_1 : decode cX3_strengthBehindTrial 1 = .ok (.invokevirtual 50, 3) := dz_at dqX3_strengthBehindTrial_p070 1 rfl
theorem dX3_strengthBehindTrial_4 : decode cX3_strengthBehindTrial 4 = .ok (.iconst 0, 1) := dz_at dqX3_strengthBehindTrial_p070 2 rfl
theorem dX3_strengthBehindTrial_5 : decode cX3_strengthBehindTrial 5 = .ok (.istore_n 2, 1) := dz_at dqX3_strengthBehindTrial_p070 3 rfl
theorem dX3_strengthBehindTrial_6 : decode cX3_strengthBehindTrial 6 = .ok (.iload_n 2, 1) := dz_at dqX3_strengthBehindTrial_p070 4 rfl
theorem dX3_strengthBehindTrial_7 : decode cX3_strengthBehindTrial 7 = .ok (.iload_n 1, 1) := dz_at dqX3_strengthBehindTrial_p070 5 rfl
theorem dX3_strengthBehindTrial_8 : decode cX3_strengthBehindTrial 8 = .ok (.if_icmp .ge 46, 3) := dz_at dqX3_strengthBehindTrial_p070 6 rfl
theorem dX3_strengthBehindTrial_11 : decode cX3_strengthBehindTrial 11 = .ok (.aload_n 0, 1) := dz_at dqX3_strengthBehindTrial_p070 7 rfl
theorem dX3_strengthBehindTrial_12 : decode cX3_strengthBehindTrial 12 = .ok (.getfield 15, 3) := dz_at dqX3_strengthBehindTrial_p070 8 rfl
theorem dX3_strengthBehindTrial_15 : decode cX3_strengthBehindTrial 15 = .ok (.iload_n 2, 1) := dz_at dqX3_strengthBehindTrial_p070 9 rfl
theorem dX3_strengthBehindTrial_16 : decode cX3_strengthBehindTrial 16 = .ok (.iaload, 1) := dz_at dqX3_strengthBehindTrial_p070 10 rfl
theorem dX3_strengthBehindTrial_17 : decode cX3_strengthBehindTrial 17 = .ok (.istore_n 3, 1) := dz_at dqX3_strengthBehindTrial_p070 11 rfl
theorem dX3_strengthBehindTrial_18 : decode cX3_strengthBehindTrial 18 = .ok (.iload_n 3, 1) := dz_at dqX3_strengthBehindTrial_p070 12 rfl
theorem dX3_strengthBehindTrial_19 : decode cX3_strengthBehindTrial 19 = .ok (.invokestatic 53, 3) := dz_at dqX3_strengthBehindTrial_p070 13 rfl
set_option maxRecDepth 20000 in
theorem dqX3_strengthBehindTrial_p071 : dz_rn 22 (cX3_strengthBehindTrial.data.toList.drop 22) [(4, 7), (0, 4), (0, 3), (0, 2), (3, 1), (4, 8), (0, 13), (0, 12), (0, 4), (3, 0), (0, 3), (0, 41), (0, 10), (0, 9)] = some [(22, .ifCond .eq 26, 3), (25, .aload_n 0, 1), (26, .iload_n 3, 1), (27, .iload_n 2, 1), (28, .invokevirtual 57, 3), (31, .ifCond .ne 5, 3), (34, .iconst (-1), 1), (35, .ireturn, 1), (36, .aload_n 0, 1), (37, .getfield 21, 3), (40, .iload_n 3, 1), (41, .dup2, 1), (42, .iaload, 1), (43, .iconst 1, 1)] := by decide +kernel
theorem dX3_strengthBehindTrial_22 : decode cX3_strengthBehindTrial 22 = .ok (.ifCond .eq 26, 3) := dz_at dqX3_strengthBehindTrial_p071 0 rfl
theorem dX3_strengthBehindTrial_25 : decode cX3_strengthBehindTrial 25 = .ok (.aload_n 0, 1) := dz_at dqX3_strengthBehindTrial_p071 1 rfl
theorem dX3_strengthBehindTrial_26 : decode cX3_strengthBehindTrial 26 = .ok (.iload_n 3, 1) := dz_at dqX3_strengthBehindTrial_p071 2 rfl
theorem dX3_strengthBehindTrial_27 : decode cX3_strengthBehindTrial 27 = .ok (.iload_n 2, 1) := dz_at dqX3_strengthBehindTrial_p071 3 rfl
theorem dX3_strengthBehindTrial_28 : decode cX3_strengthBehindTrial 28 = .ok (.invokevirtual 57, 3) := dz_at dqX3_strengthBehindTrial_p071 4 rfl
theorem dX3_strengthBehindTrial_31 : decode cX3_strengthBehindTrial 31 = .ok (.ifCond .ne 5, 3) := dz_at dqX3_strengthBehindTrial_p071 5 rfl
theorem dX3_strengthBehindTrial_34 : decode cX3_strengthBehindTrial 34 = .ok (.iconst (-1), 1) := dz_at dqX3_strengthBehindTrial_p071 6 rfl
theorem dX3_strengthBehindTrial_35 : decode cX3_strengthBehindTrial 35 = .ok (.ireturn, 1) := dz_at dqX3_strengthBehindTrial_p071 7 rfl
theorem dX3_strengthBehindTrial_36 : decode cX3_strengthBehindTrial 36 = .ok (.aload_n 0, 1) := dz_at dqX3_strengthBehindTrial_p071 8 rfl
theorem dX3_strengthBehindTrial_37 : decode cX3_strengthBehindTrial 37 = .ok (.getfield 21, 3) := dz_at dqX3_strengthBehindTrial_p071 9 rfl
theorem dX3_strengthBehindTrial_40 : decode cX3_strengthBehindTrial 40 = .ok (.iload_n 3, 1) := dz_at dqX3_strengthBehindTrial_p071 10 rfl
theorem dX3_strengthBehindTrial_41 : decode cX3_strengthBehindTrial 41 = .ok (.dup2, 1) := dz_at dqX3_strengthBehindTrial_p071 11 rfl
theorem dX3_strengthBehindTrial_42 : decode cX3_strengthBehindTrial 42 = .ok (.iaload, 1) := dz_at dqX3_strengthBehindTrial_p071 12 rfl
theorem dX3_strengthBehindTrial_43 : decode cX3_strengthBehindTrial 43 = .ok (.iconst 1, 1) := dz_at dqX3_strengthBehindTrial_p071 13 rfl
set_option maxRecDepth 20000 in
theorem dqX3_strengthBehindTrial_p072 : dz_rn 44 (cX3_strengthBehindTrial.data.toList.drop 44) [(0, 2), (0, 31), (0, 39), (0, 22), (5, 0), (4, 0), (0, 8), (0, 20), (0, 8), (0, 21), (0, 3), (2, 0), (4, 4), (0, 2)] = some [(44, .iload_n 2, 1), (45, .ishl, 1), (46, .ior, 1), (47, .iastore, 1), (48, .iinc 2 1, 3), (51, .goto (-45), 3), (54, .iconst 0, 1), (55, .istore_n 2, 1), (56, .iconst 0, 1), (57, .istore_n 3, 1), (58, .iload_n 3, 1), (59, .bipush 8, 2), (61, .if_icmp .ge 24, 3), (64, .iload_n 2, 1)] := by decide +kernel
theorem dX3_strengthBehindTrial_44 : decode cX3_strengthBehindTrial 44 = .ok (.iload_n 2, 1) := dz_at dqX3_strengthBehindTrial_p072 0 rfl
theorem dX3_strengthBehindTrial_45 : decode cX3_strengthBehindTrial 45 = .ok (.ishl, 1) := dz_at dqX3_strengthBehindTrial_p072 1 rfl
theorem dX3_strengthBehindTrial_46 : decode cX3_strengthBehindTrial 46 = .ok (.ior, 1) := dz_at dqX3_strengthBehindTrial_p072 2 rfl
theorem dX3_strengthBehindTrial_47 : decode cX3_strengthBehindTrial 47 = .ok (.iastore, 1) := dz_at dqX3_strengthBehindTrial_p072 3 rfl
theorem dX3_strengthBehindTrial_48 : decode cX3_strengthBehindTrial 48 = .ok (.iinc 2 1, 3) := dz_at dqX3_strengthBehindTrial_p072 4 rfl
theorem dX3_strengthBehindTrial_51 : decode cX3_strengthBehindTrial 51 = .ok (.goto (-45), 3) := dz_at dqX3_strengthBehindTrial_p072 5 rfl
theorem dX3_strengthBehindTrial_54 : decode cX3_strengthBehindTrial 54 = .ok (.iconst 0, 1) := dz_at dqX3_strengthBehindTrial_p072 6 rfl
theorem dX3_strengthBehindTrial_55 : decode cX3_strengthBehindTrial 55 = .ok (.istore_n 2, 1) := dz_at dqX3_strengthBehindTrial_p072 7 rfl
theorem dX3_strengthBehindTrial_56 : decode cX3_strengthBehindTrial 56 = .ok (.iconst 0, 1) := dz_at dqX3_strengthBehindTrial_p072 8 rfl
theorem dX3_strengthBehindTrial_57 : decode cX3_strengthBehindTrial 57 = .ok (.istore_n 3, 1) := dz_at dqX3_strengthBehindTrial_p072 9 rfl
theorem dX3_strengthBehindTrial_58 : decode cX3_strengthBehindTrial 58 = .ok (.iload_n 3, 1) := dz_at dqX3_strengthBehindTrial_p072 10 rfl
theorem dX3_strengthBehindTrial_59 : decode cX3_strengthBehindTrial 59 = .ok (.bipush 8, 2) := dz_at dqX3_strengthBehindTrial_p072 11 rfl
theorem dX3_strengthBehindTrial_61 : decode cX3_strengthBehindTrial 61 = .ok (.if_icmp .ge 24, 3) := dz_at dqX3_strengthBehindTrial_p072 12 rfl
theorem dX3_strengthBehindTrial_64 : decode cX3_strengthBehindTrial 64 = .ok (.iload_n 2, 1) := dz_at dqX3_strengthBehindTrial_p072 13 rfl
set_option maxRecDepth 20000 in
theorem dqX3_strengthBehindTrial_p073 : dz_rn 65 (cX3_strengthBehindTrial.data.toList.drop 65) [(0, 4), (0, 3), (0, 1), (0, 4), (3, 0), (0, 3), (0, 10), (3, 1), (0, 11), (0, 20), (5, 0), (4, 0), (0, 2), (0, 12)] = some [(65, .aload_n 0, 1), (66, .iload_n 3, 1), (67, .iload_n 1, 1), (68, .aload_n 0, 1), (69, .getfield 21, 3), (72, .iload_n 3, 1), (73, .iaload, 1), (74, .invokevirtual 61, 3), (77, .iadd, 1), (78, .istore_n 2, 1), (79, .iinc 3 1, 3), (82, .goto (-24), 3), (85, .iload_n 2, 1), (86, .ireturn, 1)] := by decide +kernel
theorem dX3_strengthBehindTrial_65 : decode cX3_strengthBehindTrial 65 = .ok (.aload_n 0, 1) := dz_at dqX3_strengthBehindTrial_p073 0 rfl
theorem dX3_strengthBehindTrial_66 : decode cX3_strengthBehindTrial 66 = .ok (.iload_n 3, 1) := dz_at dqX3_strengthBehindTrial_p073 1 rfl
theorem dX3_strengthBehindTrial_67 : decode cX3_strengthBehindTrial 67 = .ok (.iload_n 1, 1) := dz_at dqX3_strengthBehindTrial_p073 2 rfl
theorem dX3_strengthBehindTrial_68 : decode cX3_strengthBehindTrial 68 = .ok (.aload_n 0, 1) := dz_at dqX3_strengthBehindTrial_p073 3 rfl
theorem dX3_strengthBehindTrial_69 : decode cX3_strengthBehindTrial 69 = .ok (.getfield 21, 3) := dz_at dqX3_strengthBehindTrial_p073 4 rfl
theorem dX3_strengthBehindTrial_72 : decode cX3_strengthBehindTrial 72 = .ok (.iload_n 3, 1) := dz_at dqX3_strengthBehindTrial_p073 5 rfl
theorem dX3_strengthBehindTrial_73 : decode cX3_strengthBehindTrial 73 = .ok (.iaload, 1) := dz_at dqX3_strengthBehindTrial_p073 6 rfl
theorem dX3_strengthBehindTrial_74 : decode cX3_strengthBehindTrial 74 = .ok (.invokevirtual 61, 3) := dz_at dqX3_strengthBehindTrial_p073 7 rfl
theorem dX3_strengthBehindTrial_77 : decode cX3_strengthBehindTrial 77 = .ok (.iadd, 1) := dz_at dqX3_strengthBehindTrial_p073 8 rfl
theorem dX3_strengthBehindTrial_78 : decode cX3_strengthBehindTrial 78 = .ok (.istore_n 2, 1) := dz_at dqX3_strengthBehindTrial_p073 9 rfl
theorem dX3_strengthBehindTrial_79 : decode cX3_strengthBehindTrial 79 = .ok (.iinc 3 1, 3) := dz_at dqX3_strengthBehindTrial_p073 10 rfl
theorem dX3_strengthBehindTrial_82 : decode cX3_strengthBehindTrial 82 = .ok (.goto (-24), 3) := dz_at dqX3_strengthBehindTrial_p073 11 rfl
theorem dX3_strengthBehindTrial_85 : decode cX3_strengthBehindTrial 85 = .ok (.iload_n 2, 1) := dz_at dqX3_strengthBehindTrial_p073 12 rfl
theorem dX3_strengthBehindTrial_86 : decode cX3_strengthBehindTrial 86 = .ok (.ireturn, 1) := dz_at dqX3_strengthBehindTrial_p073 13 rfl
set_option maxRecDepth 20000 in
theorem ggX3_findBest_X3_prepare : GoodIn wsX3_findBest wsX3_prepare := goodIn_r _ [7, 8, 9, 10, 11, 12, 13, 14, 15, 16, 17, 18, 19, 20, 21, 22, 23, 24, 25, 26, 27, 28, 29, 30, 31, 32, 33, 34, 35, 36, 37, 38, 39, 40, 41, 42, 43, 6, 44, 45, 46, 47, 48, 49, 50, 51, 52, 53, 54, 55, 98, 99, 100, 101, 102, 103, 104, 105, 106, 107, 108, 109, 110, 111, 112, 113, 114, 115, 116, 117, 118, 119, 120, 121, 122] rfl (by decide +kernel)
set_option maxRecDepth 20000 in
theorem gX3_findBest_X3_prepare : GoodIn wsX3_findBest (wsV RX3 50 RX3 yX3_prepare wsX3_prepare) := goodIn_app (goodIn_of _ (by decide +kernel)) ggX3_findBest_X3_prepare
set_option maxRecDepth 20000 in
theorem ggX3_findBest_X3_strengthOfRoom : GoodIn wsX3_findBest wsX3_strengthOfRoom := goodIn_r _ [59, 8, 60, 61, 62, 14, 63, 64, 16, 65, 66, 67, 68, 69, 70, 71, 72, 73, 74, 75, 76, 77, 78, 98, 99, 100, 101, 102, 103, 104, 105, 106, 107, 108, 109, 110, 111, 112, 113, 114, 115, 116, 117, 118, 119] rfl (by decide +kernel)
set_option maxRecDepth 20000 in
theorem gX3_findBest_X3_strengthOfRoom : GoodIn wsX3_findBest (wsV RX3 61 RX3 yX3_strengthOfRoom wsX3_strengthOfRoom) := goodIn_app (goodIn_of _ (by decide +kernel)) ggX3_findBest_X3_strengthOfRoom
set_option maxRecDepth 20000 in
theorem ggX3_findBest_X3_seek : GoodIn wsX3_findBest wsX3_seek := goodIn_r _ [82, 10, 1, 83, 84, 85, 86, 6, 87, 2, 88, 89, 90, 91, 92, 93, 94, 95, 96, 9, 97, 79, 80, 81, 98, 99, 100, 101, 102, 103, 104, 105, 106] rfl (by decide +kernel)
set_option maxRecDepth 20000 in
theorem gX3_findBest_X3_seek : GoodIn wsX3_findBest (wsV RX3 69 RX3 yX3_seek wsX3_seek) := goodIn_app (goodIn_of _ (by decide +kernel)) ggX3_findBest_X3_seek
set_option maxRecDepth 20000 in
theorem dqX3_findBest_p070 : dz_rn 0 (cX3_findBest.data.toList.drop 0) [(0, 4), (3, 1), (0, 8), (0, 20), (0, 8), (0, 21), (0, 3), (2, 0), (4, 4), (0, 8), (1, 1), (1, 0), (0, 9), (0, 1)] = some [(0, .aload_n 0, 1), (1, .invokevirtual 50, 3), (4, .iconst 0, 1), (5, .istore_n 2, 1), (6, .iconst 0, 1), (7, .istore_n 3, 1), (8, .iload_n 3, 1), (9, .bipush 8, 2), (11, .if_icmp .ge 58, 3), (14, .iconst 0, 1), (15, .istore 4, 2), (17, .iload 4, 2), (19, .iconst 1, 1), (20, .iload_n 1, 1)] := by decide +kernel
theorem dX3_findBest_0 : decode cX3_findBest 0 = .ok (.aload_n 0, 1) := dz_at dqX3_findBest_p070 0 rfl
theorem dX3_findBest_1 : decode cX3_findBest 1 = .ok (.invokevirtual 50, 3) := dz_at dqX3_findBest_p070 1 rfl
theorem dX3_findBest_4 : decode cX3_findBest 4 = .ok (.iconst 0, 1) := dz_at dqX3_findBest_p070 2 rfl
theorem dX3_findBest_5 : decode cX3_findBest 5 = .ok (.istore_n 2, 1) := dz_at dqX3_findBest_p070 3 rfl
theorem dX3_findBest_6 : decode cX3_findBest 6 = .ok (.iconst 0, 1) := dz_at dqX3_findBest_p070 4 rfl
theorem dX3_findBest_7 : decode cX3_findBest 7 = .ok (.istore_n 3, 1) := dz_at dqX3_findBest_p070 5 rfl
theorem dX3_findBest_8 : decode cX3_findBest 8 = .ok (.iload_n 3, 1) := dz_at dqX3_findBest_p070 6 rfl
theorem dX3_findBest_9 : decode cX3_findBest 9 = .ok (.bipush 8, 2) := dz_at dqX3_findBest_p070 7 rfl
theorem dX3_findBest_11 : decode cX3_findBest 11 = .ok (.if_icmp .ge 58, 3) := dz_at dqX3_findBest_p070 8 rfl
theorem dX3_findBest_14 : decode cX3_findBest 14 = .ok (.iconst 0, 1) := dz_at dqX3_findBest_p070 9 rfl
theorem dX3_findBest_15 : decode cX3_findBest 15 = .ok (.istore 4, 2) := dz_at dqX3_findBest_p070 10 rfl
theorem dX3_findBest_17 : decode cX3_findBest 17 = .ok (.iload 4, 2) := dz_at dqX3_findBest_p070 11 rfl
theorem dX3_findBest_19 : decode cX3_findBest 19 = .ok (.iconst 1, 1) := dz_at dqX3_findBest_p070 12 rfl
theorem dX3_findBest_20 : decode cX3_findBest 20 = .ok (.iload_n 1, 1) := dz_at dqX3_findBest_p070 13 rfl
set_option maxRecDepth 20000 in
theorem dqX3_findBest_p071 : dz_rn 21 (cX3_findBest.data.toList.drop 21) [(0, 31), (4, 4), (0, 4), (3, 0), (0, 3), (2, 0), (0, 23), (1, 0), (0, 11), (0, 4), (0, 3), (0, 1), (1, 0), (3, 1)] = some [(21, .ishl, 1), (22, .if_icmp .ge 29, 3), (25, .aload_n 0, 1), (26, .getfield 27, 3), (29, .iload_n 3, 1), (30, .bipush 16, 2), (32, .imul, 1), (33, .iload 4, 2), (35, .iadd, 1), (36, .aload_n 0, 1), (37, .iload_n 3, 1), (38, .iload_n 1, 1), (39, .iload 4, 2), (41, .invokevirtual 61, 3)] := by decide +kernel
theorem dX3_findBest_21 : decode cX3_findBest 21 = .ok (.ishl, 1) := dz_at dqX3_findBest_p071 0 rfl
theorem dX3_findBest_22 : decode cX3_findBest 22 = .ok (.if_icmp .ge 29, 3) := dz_at dqX3_findBest_p071 1 rfl
theorem dX3_findBest_25 : decode cX3_findBest 25 = .ok (.aload_n 0, 1) := dz_at dqX3_findBest_p071 2 rfl
theorem dX3_findBest_26 : decode cX3_findBest 26 = .ok (.getfield 27, 3) := dz_at dqX3_findBest_p071 3 rfl
theorem dX3_findBest_29 : decode cX3_findBest 29 = .ok (.iload_n 3, 1) := dz_at dqX3_findBest_p071 4 rfl
theorem dX3_findBest_30 : decode cX3_findBest 30 = .ok (.bipush 16, 2) := dz_at dqX3_findBest_p071 5 rfl
theorem dX3_findBest_32 : decode cX3_findBest 32 = .ok (.imul, 1) := dz_at dqX3_findBest_p071 6 rfl
theorem dX3_findBest_33 : decode cX3_findBest 33 = .ok (.iload 4, 2) := dz_at dqX3_findBest_p071 7 rfl
theorem dX3_findBest_35 : decode cX3_findBest 35 = .ok (.iadd, 1) := dz_at dqX3_findBest_p071 8 rfl
theorem dX3_findBest_36 : decode cX3_findBest 36 = .ok (.aload_n 0, 1) := dz_at dqX3_findBest_p071 9 rfl
theorem dX3_findBest_37 : decode cX3_findBest 37 = .ok (.iload_n 3, 1) := dz_at dqX3_findBest_p071 10 rfl
theorem dX3_findBest_38 : decode cX3_findBest 38 = .ok (.iload_n 1, 1) := dz_at dqX3_findBest_p071 11 rfl
theorem dX3_findBest_39 : decode cX3_findBest 39 = .ok (.iload 4, 2) := dz_at dqX3_findBest_p071 12 rfl
theorem dX3_findBest_41 : decode cX3_findBest 41 = .ok (.invokevirtual 61, 3) := dz_at dqX3_findBest_p071 13 rfl
set_option maxRecDepth 20000 in
theorem dqX3_findBest_p072 : dz_rn 44 (cX3_findBest.data.toList.drop 44) [(0, 22), (5, 0), (4, 0), (0, 2), (0, 4), (3, 0), (0, 3), (2, 0), (0, 23), (0, 10), (0, 11), (0, 20), (5, 0), (4, 0)] = some [(44, .iastore, 1), (45, .iinc 4 1, 3), (48, .goto (-31), 3), (51, .iload_n 2, 1), (52, .aload_n 0, 1), (53, .getfield 27, 3), (56, .iload_n 3, 1), (57, .bipush 16, 2), (59, .imul, 1), (60, .iaload, 1), (61, .iadd, 1), (62, .istore_n 2, 1), (63, .iinc 3 1, 3), (66, .goto (-58), 3)] := by decide +kernel
theorem dX3_findBest_44 : decode cX3_findBest 44 = .ok (.iastore, 1) := dz_at dqX3_findBest_p072 0 rfl
theorem dX3_findBest_45 : decode cX3_findBest 45 = .ok (.iinc 4 1, 3) := dz_at dqX3_findBest_p072 1 rfl
theorem dX3_findBest_48 : decode cX3_findBest 48 = .ok (.goto (-31), 3) := dz_at dqX3_findBest_p072 2 rfl
theorem dX3_findBest_51 : decode cX3_findBest 51 = .ok (.iload_n 2, 1) := dz_at dqX3_findBest_p072 3 rfl
theorem dX3_findBest_52 : decode cX3_findBest 52 = .ok (.aload_n 0, 1) := dz_at dqX3_findBest_p072 4 rfl
theorem dX3_findBest_53 : decode cX3_findBest 53 = .ok (.getfield 27, 3) := dz_at dqX3_findBest_p072 5 rfl
theorem dX3_findBest_56 : decode cX3_findBest 56 = .ok (.iload_n 3, 1) := dz_at dqX3_findBest_p072 6 rfl
theorem dX3_findBest_57 : decode cX3_findBest 57 = .ok (.bipush 16, 2) := dz_at dqX3_findBest_p072 7 rfl
theorem dX3_findBest_59 : decode cX3_findBest 59 = .ok (.imul, 1) := dz_at dqX3_findBest_p072 8 rfl
theorem dX3_findBest_60 : decode cX3_findBest 60 = .ok (.iaload, 1) := dz_at dqX3_findBest_p072 9 rfl
theorem dX3_findBest_61 : decode cX3_findBest 61 = .ok (.iadd, 1) := dz_at dqX3_findBest_p072 10 rfl
theorem dX3_findBest_62 : decode cX3_findBest 62 = .ok (.istore_n 2, 1) := dz_at dqX3_findBest_p072 11 rfl
theorem dX3_findBest_63 : decode cX3_findBest 63 = .ok (.iinc 3 1, 3) := dz_at dqX3_findBest_p072 12 rfl
theorem dX3_findBest_66 : decode cX3_findBest 66 = .ok (.goto (-58), 3) := dz_at dqX3_findBest_p072 13 rfl
set_option maxRecDepth 20000 in
theorem dqX3_findBest_p073 : dz_rn 69 (cX3_findBest.data.toList.drop 69) [(0, 4), (0, 13), (3, 3), (0, 4), (0, 8), (0, 1), (0, 2), (3, 1), (0, 25)] = some [(69, .aload_n 0, 1), (70, .iconst (-1), 1), (71, .putfield 65, 3), (74, .aload_n 0, 1), (75, .iconst 0, 1), (76, .iload_n 1, 1), (77, .iload_n 2, 1), (78, .invokevirtual 69, 3), (81, .return_, 1)] := by decide +kernel
theorem dX3_findBest_69 : decode cX3_findBest 69 = .ok (.aload_n 0, 1) := dz_at dqX3_findBest_p073 0 rfl
theorem dX3_findBest_70 : decode cX3_findBest 70 = .ok (.iconst (-1), 1) := dz_at dqX3_findBest_p073 1 rfl
theorem dX3_findBest_71 : decode cX3_findBest 71 = .ok (.putfield 65, 3) := dz_at dqX3_findBest_p073 2 rfl
theorem dX3_findBest_74 : decode cX3_findBest 74 = .ok (.aload_n 0, 1) := dz_at dqX3_findBest_p073 3 rfl
theorem dX3_findBest_75 : decode cX3_findBest 75 = .ok (.iconst 0, 1) := dz_at dqX3_findBest_p073 4 rfl
theorem dX3_findBest_76 : decode cX3_findBest 76 = .ok (.iload_n 1, 1) := dz_at dqX3_findBest_p073 5 rfl
theorem dX3_findBest_77 : decode cX3_findBest 77 = .ok (.iload_n 2, 1) := dz_at dqX3_findBest_p073 6 rfl
theorem dX3_findBest_78 : decode cX3_findBest 78 = .ok (.invokevirtual 69, 3) := dz_at dqX3_findBest_p073 7 rfl
theorem dX3_findBest_81 : decode cX3_findBest 81 = .ok (.return_, 1) := dz_at dqX3_findBest_p073 8 rfl
set_option maxRecDepth 20000 in
theorem ggX3_prepare_X1_countCrowds : GoodIn wsX3_prepare wsX1_countCrowds := goodIn_r _ [8, 9, 10, 11, 12, 7, 13, 14, 15, 16, 17, 18, 19, 20, 21, 22, 23, 24, 25, 26, 27, 28, 29, 30, 31, 32, 33, 59, 60, 61, 62, 63, 64, 65, 66, 67, 68, 69, 70, 71, 72] rfl (by decide +kernel)
set_option maxRecDepth 20000 in
theorem gX3_prepare_X1_countCrowds : GoodIn wsX3_prepare (wsV RX3 73 RX1 yX1_countCrowds wsX1_countCrowds) := goodIn_app (goodIn_of _ (by decide +kernel)) ggX3_prepare_X1_countCrowds
set_option maxRecDepth 20000 in
theorem ggX3_prepare_X3_costOf : GoodIn wsX3_prepare wsX3_costOf := goodIn_r _ [38, 39, 1, 40, 41, 42, 43, 44, 45, 46, 47, 48, 7, 49, 14, 50, 51, 52, 53, 54, 55, 56, 57, 58, 73, 74, 59, 60, 61, 62, 63, 64, 65, 66, 67, 68, 69, 70, 71] rfl (by decide +kernel)
set_option maxRecDepth 20000 in
theorem gX3_prepare_X3_costOf : GoodIn wsX3_prepare (wsV RX3 76 RX3 yX3_costOf wsX3_costOf) := goodIn_app (goodIn_of _ (by decide +kernel)) ggX3_prepare_X3_costOf
set_option maxRecDepth 20000 in
theorem dqX3_prepare_p070 : dz_rn 0 (cX3_prepare.data.toList.drop 0) [(0, 4), (3, 0), (3, 1), (0, 8), (0, 19), (0, 1), (2, 0), (4, 4), (0, 4), (3, 0), (0, 1), (0, 4), (0, 1), (3, 1)] = some [(0, .aload_n 0, 1), (1, .getfield 30, 3), (4, .invokevirtual 73, 3), (7, .iconst 0, 1), (8, .istore_n 1, 1), (9, .iload_n 1, 1), (10, .bipush 8, 2), (12, .if_icmp .ge 27, 3), (15, .aload_n 0, 1), (16, .getfield 24, 3), (19, .iload_n 1, 1), (20, .aload_n 0, 1), (21, .iload_n 1, 1), (22, .invokevirtual 76, 3)] := by decide +kernel
theorem dX3_prepare_0 : decode cX3_prepare 0 = .ok (.aload_n 0, 1) := dz_at dqX3_prepare_p070 0 rfl
theorem dX3_prepare_1 : decode cX3_prepare 1 = .ok (.getfield 30, 3) := dz_at dqX3_prepare_p070 1 rfl
theorem dX3_prepare_4 : decode cX3_prepare 4 = .ok (.invokevirtual 73, 3) := dz_at dqX3_prepare_p070 2 rfl
theorem dX3_prepare_7 : decode cX3_prepare 7 = .ok (.iconst 0, 1) := dz_at dqX3_prepare_p070 3 rfl
theorem dX3_prepare_8 : decode cX3_prepare 8 = .ok (.istore_n 1, 1) := dz_at dqX3_prepare_p070 4 rfl
theorem dX3_prepare_9 : decode cX3_prepare 9 = .ok (.iload_n 1, 1) := dz_at dqX3_prepare_p070 5 rfl
theorem dX3_prepare_10 : decode cX3_prepare 10 = .ok (.bipush 8, 2) := dz_at dqX3_prepare_p070 6 rfl
theorem dX3_prepare_12 : decode cX3_prepare 12 = .ok (.if_icmp .ge 27, 3) := dz_at dqX3_prepare_p070 7 rfl
theorem dX3_prepare_15 : decode cX3_prepare 15 = .ok (.aload_n 0, 1) := dz_at dqX3_prepare_p070 8 rfl
theorem dX3_prepare_16 : decode cX3_prepare 16 = .ok (.getfield 24, 3) := dz_at dqX3_prepare_p070 9 rfl
theorem dX3_prepare_19 : decode cX3_prepare 19 = .ok (.iload_n 1, 1) := dz_at dqX3_prepare_p070 10 rfl
theorem dX3_prepare_20 : decode cX3_prepare 20 = .ok (.aload_n 0, 1) := dz_at dqX3_prepare_p070 11 rfl
theorem dX3_prepare_21 : decode cX3_prepare 21 = .ok (.iload_n 1, 1) := dz_at dqX3_prepare_p070 12 rfl
theorem dX3_prepare_22 : decode cX3_prepare 22 = .ok (.invokevirtual 76, 3) := dz_at dqX3_prepare_p070 13 rfl
set_option maxRecDepth 20000 in
theorem dqX3_prepare_p071 : dz_rn 25 (cX3_prepare.data.toList.drop 25) [(0, 22), (0, 4), (3, 0), (0, 1), (0, 8), (0, 22), (5, 0), (4, 0), (0, 25)] = some [(25, .iastore, 1), (26, .aload_n 0, 1), (27, .getfield 21, 3), (30, .iload_n 1, 1), (31, .iconst 0, 1), (32, .iastore, 1), (33, .iinc 1 1, 3), (36, .goto (-27), 3), (39, .return_, 1)] := by decide +kernel
theorem dX3_prepare_25 : decode cX3_prepare 25 = .ok (.iastore, 1) := dz_at dqX3_prepare_p071 0 rfl
theorem dX3_prepare_26 : decode cX3_prepare 26 = .ok (.aload_n 0, 1) := dz_at dqX3_prepare_p071 1 rfl
theorem dX3_prepare_27 : decode cX3_prepare 27 = .ok (.getfield 21, 3) := dz_at dqX3_prepare_p071 2 rfl
theorem dX3_prepare_30 : decode cX3_prepare 30 = .ok (.iload_n 1, 1) := dz_at dqX3_prepare_p071 3 rfl
theorem dX3_prepare_31 : decode cX3_prepare 31 = .ok (.iconst 0, 1) := dz_at dqX3_prepare_p071 4 rfl
theorem dX3_prepare_32 : decode cX3_prepare 32 = .ok (.iastore, 1) := dz_at dqX3_prepare_p071 5 rfl
theorem dX3_prepare_33 : decode cX3_prepare 33 = .ok (.iinc 1 1, 3) := dz_at dqX3_prepare_p071 6 rfl
theorem dX3_prepare_36 : decode cX3_prepare 36 = .ok (.goto (-27), 3) := dz_at dqX3_prepare_p071 7 rfl
theorem dX3_prepare_39 : decode cX3_prepare 39 = .ok (.return_, 1) := dz_at dqX3_prepare_p071 8 rfl
set_option maxRecDepth 20000 in
theorem dqX3_walkable_p070 : dz_rn 0 (cX3_walkable.data.toList.drop 0) [(0, 4), (3, 0), (0, 1), (0, 10), (0, 13), (4, 1), (0, 4), (3, 0), (0, 1), (0, 10), (0, 4), (3, 0), (0, 2), (0, 10)] = some [(0, .aload_n 0, 1), (1, .getfield 24, 3), (4, .iload_n 1, 1), (5, .iaload, 1), (6, .iconst (-1), 1), (7, .if_icmp .eq 22, 3), (10, .aload_n 0, 1), (11, .getfield 24, 3), (14, .iload_n 1, 1), (15, .iaload, 1), (16, .aload_n 0, 1), (17, .getfield 9, 3), (20, .iload_n 2, 1), (21, .iaload, 1)] := by decide +kernel
theorem dX3_walkable_0 : decode cX3_walkable 0 = .ok (.aload_n 0, 1) := dz_at dqX3_walkable_p070 0 rfl
theorem dX3_walkable_1 : decode cX3_walkable 1 = .ok (.getfield 24, 3) := dz_at dqX3_walkable_p070 1 rfl
theorem dX3_walkable_4 : decode cX3_walkable 4 = .ok (.iload_n 1, 1) := dz_at dqX3_walkable_p070 2 rfl
theorem dX3_walkable_5 : decode cX3_walkable 5 = .ok (.iaload, 1) := dz_at dqX3_walkable_p070 3 rfl
theorem dX3_walkable_6 : decode cX3_walkable 6 = .ok (.iconst (-1), 1) := dz_at dqX3_walkable_p070 4 rfl
theorem dX3_walkable_7 : decode cX3_walkable 7 = .ok (.if_icmp .eq 22, 3) := dz_at dqX3_walkable_p070 5 rfl
theorem dX3_walkable_10 : decode cX3_walkable 10 = .ok (.aload_n 0, 1) := dz_at dqX3_walkable_p070 6 rfl
theorem dX3_walkable_11 : decode cX3_walkable 11 = .ok (.getfield 24, 3) := dz_at dqX3_walkable_p070 7 rfl
theorem dX3_walkable_14 : decode cX3_walkable 14 = .ok (.iload_n 1, 1) := dz_at dqX3_walkable_p070 8 rfl
theorem dX3_walkable_15 : decode cX3_walkable 15 = .ok (.iaload, 1) := dz_at dqX3_walkable_p070 9 rfl
theorem dX3_walkable_16 : decode cX3_walkable 16 = .ok (.aload_n 0, 1) := dz_at dqX3_walkable_p070 10 rfl
theorem dX3_walkable_17 : decode cX3_walkable 17 = .ok (.getfield 9, 3) := dz_at dqX3_walkable_p070 11 rfl
theorem dX3_walkable_20 : decode cX3_walkable 20 = .ok (.iload_n 2, 1) := dz_at dqX3_walkable_p070 12 rfl
theorem dX3_walkable_21 : decode cX3_walkable 21 = .ok (.iaload, 1) := dz_at dqX3_walkable_p070 13 rfl
set_option maxRecDepth 20000 in
theorem dqX3_walkable_p071 : dz_rn 22 (cX3_walkable.data.toList.drop 22) [(4, 5), (0, 9), (4, 0), (0, 8), (0, 12)] = some [(22, .if_icmp .gt 7, 3), (25, .iconst 1, 1), (26, .goto 4, 3), (29, .iconst 0, 1), (30, .ireturn, 1)] := by decide +kernel
theorem dX3_walkable_22 : decode cX3_walkable 22 = .ok (.if_icmp .gt 7, 3) := dz_at dqX3_walkable_p071 0 rfl
theorem dX3_walkable_25 : decode cX3_walkable 25 = .ok (.iconst 1, 1) := dz_at dqX3_walkable_p071 1 rfl
theorem dX3_walkable_26 : decode cX3_walkable 26 = .ok (.goto 4, 3) := dz_at dqX3_walkable_p071 2 rfl
theorem dX3_walkable_29 : decode cX3_walkable 29 = .ok (.iconst 0, 1) := dz_at dqX3_walkable_p071 3 rfl
theorem dX3_walkable_30 : decode cX3_walkable 30 = .ok (.ireturn, 1) := dz_at dqX3_walkable_p071 4 rfl
set_option maxRecDepth 20000 in
theorem ggX3_strengthOfRoom_X1_strengthBehind : GoodIn wsX3_strengthOfRoom wsX1_strengthBehind := goodIn_r _ [6, 7, 8, 9, 10, 11, 5, 12, 13, 14, 15, 16, 17, 18, 19, 20, 21, 22, 32, 33, 34, 35, 36, 37, 38, 39, 40, 41, 42, 43, 44] rfl (by decide +kernel)
set_option maxRecDepth 20000 in
theorem gX3_strengthOfRoom_X1_strengthBehind : GoodIn wsX3_strengthOfRoom (wsV RX3 82 RX1 yX1_strengthBehind wsX1_strengthBehind) := goodIn_app (goodIn_of _ (by decide +kernel)) ggX3_strengthOfRoom_X1_strengthBehind
set_option maxRecDepth 20000 in
theorem dqX3_strengthOfRoom_p070 : dz_rn 0 (cX3_strengthOfRoom.data.toList.drop 0) [(0, 8), (1, 1), (0, 1), (2, 0), (0, 23), (1, 1), (1, 0), (1, 1), (1, 0), (1, 0), (2, 0), (0, 11), (4, 4), (0, 4)] = some [(0, .iconst 0, 1), (1, .istore 4, 2), (3, .iload_n 1, 1), (4, .bipush 6, 2), (6, .imul, 1), (7, .istore 5, 2), (9, .iload 5, 2), (11, .istore 6, 2), (13, .iload 6, 2), (15, .iload 5, 2), (17, .bipush 6, 2), (19, .iadd, 1), (20, .if_icmp .ge 39, 3), (23, .aload_n 0, 1)] := by decide +kernel
theorem dX3_strengthOfRoom_0 : decode cX3_strengthOfRoom 0 = .ok (.iconst 0, 1) := dz_at dqX3_strengthOfRoom_p070 0 rfl
theorem dX3_strengthOfRoom_1 : decode cX3_strengthOfRoom 1 = .ok (.istore 4, 2) := dz_at dqX3_strengthOfRoom_p070 1 rfl
theorem dX3_strengthOfRoom_3 : decode cX3_strengthOfRoom 3 = .ok (.iload_n 1, 1) := dz_at dqX3_strengthOfRoom_p070 2 rfl
theorem dX3_strengthOfRoom_4 : decode cX3_strengthOfRoom 4 = .ok (.bipush 6, 2) := dz_at dqX3_strengthOfRoom_p070 3 rfl
theorem dX3_strengthOfRoom_6 : decode cX3_strengthOfRoom 6 = .ok (.imul, 1) := dz_at dqX3_strengthOfRoom_p070 4 rfl
theorem dX3_strengthOfRoom_7 : decode cX3_strengthOfRoom 7 = .ok (.istore 5, 2) := dz_at dqX3_strengthOfRoom_p070 5 rfl
theorem dX3_strengthOfRoom_9 : decode cX3_strengthOfRoom 9 = .ok (.iload 5, 2) := dz_at dqX3_strengthOfRoom_p070 6 rfl
theorem dX3_strengthOfRoom_11 : decode cX3_strengthOfRoom 11 = .ok (.istore 6, 2) := dz_at dqX3_strengthOfRoom_p070 7 rfl
theorem dX3_strengthOfRoom_13 : decode cX3_strengthOfRoom 13 = .ok (.iload 6, 2) := dz_at dqX3_strengthOfRoom_p070 8 rfl
theorem dX3_strengthOfRoom_15 : decode cX3_strengthOfRoom 15 = .ok (.iload 5, 2) := dz_at dqX3_strengthOfRoom_p070 9 rfl
theorem dX3_strengthOfRoom_17 : decode cX3_strengthOfRoom 17 = .ok (.bipush 6, 2) := dz_at dqX3_strengthOfRoom_p070 10 rfl
theorem dX3_strengthOfRoom_19 : decode cX3_strengthOfRoom 19 = .ok (.iadd, 1) := dz_at dqX3_strengthOfRoom_p070 11 rfl
theorem dX3_strengthOfRoom_20 : decode cX3_strengthOfRoom 20 = .ok (.if_icmp .ge 39, 3) := dz_at dqX3_strengthOfRoom_p070 12 rfl
theorem dX3_strengthOfRoom_23 : decode cX3_strengthOfRoom 23 = .ok (.aload_n 0, 1) := dz_at dqX3_strengthOfRoom_p070 13 rfl
set_option maxRecDepth 20000 in
theorem dqX3_strengthOfRoom_p071 : dz_rn 24 (cX3_strengthOfRoom.data.toList.drop 24) [(3, 0), (3, 0), (1, 0), (0, 10), (0, 13), (4, 1), (1, 0), (0, 4), (3, 0), (1, 0), (0, 2), (0, 3), (3, 1), (0, 11)] = some [(24, .getfield 30, 3), (27, .getfield 79, 3), (30, .iload 6, 2), (32, .iaload, 1), (33, .iconst (-1), 1), (34, .if_icmp .eq 19, 3), (37, .iload 4, 2), (39, .aload_n 0, 1), (40, .getfield 30, 3), (43, .iload 6, 2), (45, .iload_n 2, 1), (46, .iload_n 3, 1), (47, .invokevirtual 82, 3), (50, .iadd, 1)] := by decide +kernel
theorem dX3_strengthOfRoom_24 : decode cX3_strengthOfRoom 24 = .ok (.getfield 30, 3) := dz_at dqX3_strengthOfRoom_p071 0 rfl
theorem dX3_strengthOfRoom_27 : decode cX3_strengthOfRoom 27 = .ok (.getfield 79, 3) := dz_at dqX3_strengthOfRoom_p071 1 rfl
theorem dX3_strengthOfRoom_30 : decode cX3_strengthOfRoom 30 = .ok (.iload 6, 2) := dz_at dqX3_strengthOfRoom_p071 2 rfl
theorem dX3_strengthOfRoom_32 : decode cX3_strengthOfRoom 32 = .ok (.iaload, 1) := dz_at dqX3_strengthOfRoom_p071 3 rfl
theorem dX3_strengthOfRoom_33 : decode cX3_strengthOfRoom 33 = .ok (.iconst (-1), 1) := dz_at dqX3_strengthOfRoom_p071 4 rfl
theorem dX3_strengthOfRoom_34 : decode cX3_strengthOfRoom 34 = .ok (.if_icmp .eq 19, 3) := dz_at dqX3_strengthOfRoom_p071 5 rfl
theorem dX3_strengthOfRoom_37 : decode cX3_strengthOfRoom 37 = .ok (.iload 4, 2) := dz_at dqX3_strengthOfRoom_p071 6 rfl
theorem dX3_strengthOfRoom_39 : decode cX3_strengthOfRoom 39 = .ok (.aload_n 0, 1) := dz_at dqX3_strengthOfRoom_p071 7 rfl
theorem dX3_strengthOfRoom_40 : decode cX3_strengthOfRoom 40 = .ok (.getfield 30, 3) := dz_at dqX3_strengthOfRoom_p071 8 rfl
theorem dX3_strengthOfRoom_43 : decode cX3_strengthOfRoom 43 = .ok (.iload 6, 2) := dz_at dqX3_strengthOfRoom_p071 9 rfl
theorem dX3_strengthOfRoom_45 : decode cX3_strengthOfRoom 45 = .ok (.iload_n 2, 1) := dz_at dqX3_strengthOfRoom_p071 10 rfl
theorem dX3_strengthOfRoom_46 : decode cX3_strengthOfRoom 46 = .ok (.iload_n 3, 1) := dz_at dqX3_strengthOfRoom_p071 11 rfl
theorem dX3_strengthOfRoom_47 : decode cX3_strengthOfRoom 47 = .ok (.invokevirtual 82, 3) := dz_at dqX3_strengthOfRoom_p071 12 rfl
theorem dX3_strengthOfRoom_50 : decode cX3_strengthOfRoom 50 = .ok (.iadd, 1) := dz_at dqX3_strengthOfRoom_p071 13 rfl
set_option maxRecDepth 20000 in
theorem dqX3_strengthOfRoom_p072 : dz_rn 51 (cX3_strengthOfRoom.data.toList.drop 51) [(1, 1), (5, 0), (4, 0), (1, 0), (0, 12)] = some [(51, .istore 4, 2), (53, .iinc 6 1, 3), (56, .goto (-43), 3), (59, .iload 4, 2), (61, .ireturn, 1)] := by decide +kernel
theorem dX3_strengthOfRoom_51 : decode cX3_strengthOfRoom 51 = .ok (.istore 4, 2) := dz_at dqX3_strengthOfRoom_p072 0 rfl
theorem dX3_strengthOfRoom_53 : decode cX3_strengthOfRoom 53 = .ok (.iinc 6 1, 3) := dz_at dqX3_strengthOfRoom_p072 1 rfl
theorem dX3_strengthOfRoom_56 : decode cX3_strengthOfRoom 56 = .ok (.goto (-43), 3) := dz_at dqX3_strengthOfRoom_p072 2 rfl
theorem dX3_strengthOfRoom_59 : decode cX3_strengthOfRoom 59 = .ok (.iload 4, 2) := dz_at dqX3_strengthOfRoom_p072 3 rfl
theorem dX3_strengthOfRoom_61 : decode cX3_strengthOfRoom 61 = .ok (.ireturn, 1) := dz_at dqX3_strengthOfRoom_p072 4 rfl
set_option maxRecDepth 20000 in
theorem ggX3_seek_X3_keepIfStronger : GoodIn wsX3_seek wsX3_keepIfStronger := goodIn_r _ [8, 9, 3, 10, 11, 12, 13, 14, 24, 25, 26, 27, 28, 29, 30, 31, 32] rfl (by decide +kernel)
set_option maxRecDepth 20000 in
theorem gX3_seek_X3_keepIfStronger : GoodIn wsX3_seek (wsV RX3 85 RX3 yX3_keepIfStronger wsX3_keepIfStronger) := goodIn_app (goodIn_of _ (by decide +kernel)) ggX3_seek_X3_keepIfStronger
set_option maxRecDepth 20000 in
theorem ggX3_seek_X3_walkable : GoodIn wsX3_seek wsX3_walkable := goodIn_r _ [18, 19, 20, 24, 25, 26, 27, 28, 29, 30, 31, 32] rfl (by decide +kernel)
set_option maxRecDepth 20000 in
theorem gX3_seek_X3_walkable : GoodIn wsX3_seek (wsV RX3 57 RX3 yX3_walkable wsX3_walkable) := goodIn_app (goodIn_of _ (by decide +kernel)) ggX3_seek_X3_walkable
set_option maxRecDepth 20000 in
theorem ggX3_seek_X3_seek : GoodIn wsX3_seek wsX3_seek := goodIn_r _ [0, 1, 2, 3, 4, 5, 6, 7, 8, 9, 10, 11, 12, 13, 14, 15, 16, 17, 18, 19, 20, 21, 22, 23, 24, 25, 26, 27, 28, 29, 30, 31, 32] rfl (by decide +kernel)
set_option maxRecDepth 20000 in
theorem gX3_seek_X3_seek : GoodIn wsX3_seek (wsV RX3 69 RX3 yX3_seek wsX3_seek) := goodIn_app (goodIn_of _ (by decide +kernel)) ggX3_seek_X3_seek
set_option maxRecDepth 20000 in
theorem dqX3_seek_p070 : dz_rn 0 (cX3_seek.data.toList.drop 0) [(0, 1), (0, 2), (4, 4), (0, 1), (0, 16), (4, 3), (0, 4), (0, 3), (3, 1), (0, 25), (0, 8), (1, 1), (1, 0), (2, 0)] = some [(0, .iload_n 1, 1), (1, .iload_n 2, 1), (2, .if_icmp .ge 8, 3), (5, .iload_n 1, 1), (6, .iconst 4, 1), (7, .if_icmp .lt 9, 3), (10, .aload_n 0, 1), (11, .iload_n 3, 1), (12, .invokevirtual 85, 3), (15, .return_, 1), (16, .iconst 0, 1), (17, .istore 4, 2), (19, .iload 4, 2), (21, .bipush 8, 2)] := by decide +kernel
theorem dX3_seek_0 : decode cX3_seek 0 = .ok (.iload_n 1, 1) := dz_at dqX3_seek_p070 0 rfl
theorem dX3_seek_1 : decode cX3_seek 1 = .ok (.iload_n 2, 1) := dz_at dqX3_seek_p070 1 rfl
theorem dX3_seek_2 : decode cX3_seek 2 = .ok (.if_icmp .ge 8, 3) := dz_at dqX3_seek_p070 2 rfl
theorem dX3_seek_5 : decode cX3_seek 5 = .ok (.iload_n 1, 1) := dz_at dqX3_seek_p070 3 rfl
theorem dX3_seek_6 : decode cX3_seek 6 = .ok (.iconst 4, 1) := dz_at dqX3_seek_p070 4 rfl
theorem dX3_seek_7 : decode cX3_seek 7 = .ok (.if_icmp .lt 9, 3) := dz_at dqX3_seek_p070 5 rfl
theorem dX3_seek_10 : decode cX3_seek 10 = .ok (.aload_n 0, 1) := dz_at dqX3_seek_p070 6 rfl
theorem dX3_seek_11 : decode cX3_seek 11 = .ok (.iload_n 3, 1) := dz_at dqX3_seek_p070 7 rfl
theorem dX3_seek_12 : decode cX3_seek 12 = .ok (.invokevirtual 85, 3) := dz_at dqX3_seek_p070 8 rfl
theorem dX3_seek_15 : decode cX3_seek 15 = .ok (.return_, 1) := dz_at dqX3_seek_p070 9 rfl
theorem dX3_seek_16 : decode cX3_seek 16 = .ok (.iconst 0, 1) := dz_at dqX3_seek_p070 10 rfl
theorem dX3_seek_17 : decode cX3_seek 17 = .ok (.istore 4, 2) := dz_at dqX3_seek_p070 11 rfl
theorem dX3_seek_19 : decode cX3_seek 19 = .ok (.iload 4, 2) := dz_at dqX3_seek_p070 12 rfl
theorem dX3_seek_21 : decode cX3_seek 21 = .ok (.bipush 8, 2) := dz_at dqX3_seek_p070 13 rfl
set_option maxRecDepth 20000 in
theorem dqX3_seek_p071 : dz_rn 23 (cX3_seek.data.toList.drop 23) [(4, 4), (0, 4), (1, 0), (0, 1), (3, 1), (4, 7), (0, 4), (3, 0), (1, 0), (0, 10), (1, 1), (1, 0), (0, 9), (0, 1)] = some [(23, .if_icmp .ge 103, 3), (26, .aload_n 0, 1), (27, .iload 4, 2), (29, .iload_n 1, 1), (30, .invokevirtual 57, 3), (33, .ifCond .eq 87, 3), (36, .aload_n 0, 1), (37, .getfield 21, 3), (40, .iload 4, 2), (42, .iaload, 1), (43, .istore 5, 2), (45, .iload 5, 2), (47, .iconst 1, 1), (48, .iload_n 1, 1)] := by decide +kernel
theorem dX3_seek_23 : decode cX3_seek 23 = .ok (.if_icmp .ge 103, 3) := dz_at dqX3_seek_p071 0 rfl
theorem dX3_seek_26 : decode cX3_seek 26 = .ok (.aload_n 0, 1) := dz_at dqX3_seek_p071 1 rfl
theorem dX3_seek_27 : decode cX3_seek 27 = .ok (.iload 4, 2) := dz_at dqX3_seek_p071 2 rfl
theorem dX3_seek_29 : decode cX3_seek 29 = .ok (.iload_n 1, 1) := dz_at dqX3_seek_p071 3 rfl
theorem dX3_seek_30 : decode cX3_seek 30 = .ok (.invokevirtual 57, 3) := dz_at dqX3_seek_p071 4 rfl
theorem dX3_seek_33 : decode cX3_seek 33 = .ok (.ifCond .eq 87, 3) := dz_at dqX3_seek_p071 5 rfl
theorem dX3_seek_36 : decode cX3_seek 36 = .ok (.aload_n 0, 1) := dz_at dqX3_seek_p071 6 rfl
theorem dX3_seek_37 : decode cX3_seek 37 = .ok (.getfield 21, 3) := dz_at dqX3_seek_p071 7 rfl
theorem dX3_seek_40 : decode cX3_seek 40 = .ok (.iload 4, 2) := dz_at dqX3_seek_p071 8 rfl
theorem dX3_seek_42 : decode cX3_seek 42 = .ok (.iaload, 1) := dz_at dqX3_seek_p071 9 rfl
theorem dX3_seek_43 : decode cX3_seek 43 = .ok (.istore 5, 2) := dz_at dqX3_seek_p071 10 rfl
theorem dX3_seek_45 : decode cX3_seek 45 = .ok (.iload 5, 2) := dz_at dqX3_seek_p071 11 rfl
theorem dX3_seek_47 : decode cX3_seek 47 = .ok (.iconst 1, 1) := dz_at dqX3_seek_p071 12 rfl
theorem dX3_seek_48 : decode cX3_seek 48 = .ok (.iload_n 1, 1) := dz_at dqX3_seek_p071 13 rfl
set_option maxRecDepth 20000 in
theorem dqX3_seek_p072 : dz_rn 49 (cX3_seek.data.toList.drop 49) [(0, 31), (0, 39), (1, 1), (0, 4), (3, 0), (1, 0), (2, 0), (0, 23), (1, 0), (0, 11), (0, 10), (0, 4), (3, 0), (1, 0)] = some [(49, .ishl, 1), (50, .ior, 1), (51, .istore 6, 2), (53, .aload_n 0, 1), (54, .getfield 27, 3), (57, .iload 4, 2), (59, .bipush 16, 2), (61, .imul, 1), (62, .iload 6, 2), (64, .iadd, 1), (65, .iaload, 1), (66, .aload_n 0, 1), (67, .getfield 27, 3), (70, .iload 4, 2)] := by decide +kernel
theorem dX3_seek_49 : decode cX3_seek 49 = .ok (.ishl, 1) := dz_at dqX3_seek_p072 0 rfl
theorem dX3_seek_50 : decode cX3_seek 50 = .ok (.ior, 1) := dz_at dqX3_seek_p072 1 rfl
theorem dX3_seek_51 : decode cX3_seek 51 = .ok (.istore 6, 2) := dz_at dqX3_seek_p072 2 rfl
theorem dX3_seek_53 : decode cX3_seek 53 = .ok (.aload_n 0, 1) := dz_at dqX3_seek_p072 3 rfl
theorem dX3_seek_54 : decode cX3_seek 54 = .ok (.getfield 27, 3) := dz_at dqX3_seek_p072 4 rfl
theorem dX3_seek_57 : decode cX3_seek 57 = .ok (.iload 4, 2) := dz_at dqX3_seek_p072 5 rfl
theorem dX3_seek_59 : decode cX3_seek 59 = .ok (.bipush 16, 2) := dz_at dqX3_seek_p072 6 rfl
theorem dX3_seek_61 : decode cX3_seek 61 = .ok (.imul, 1) := dz_at dqX3_seek_p072 7 rfl
theorem dX3_seek_62 : decode cX3_seek 62 = .ok (.iload 6, 2) := dz_at dqX3_seek_p072 8 rfl
theorem dX3_seek_64 : decode cX3_seek 64 = .ok (.iadd, 1) := dz_at dqX3_seek_p072 9 rfl
theorem dX3_seek_65 : decode cX3_seek 65 = .ok (.iaload, 1) := dz_at dqX3_seek_p072 10 rfl
theorem dX3_seek_66 : decode cX3_seek 66 = .ok (.aload_n 0, 1) := dz_at dqX3_seek_p072 11 rfl
theorem dX3_seek_67 : decode cX3_seek 67 = .ok (.getfield 27, 3) := dz_at dqX3_seek_p072 12 rfl
theorem dX3_seek_70 : decode cX3_seek 70 = .ok (.iload 4, 2) := dz_at dqX3_seek_p072 13 rfl
set_option maxRecDepth 20000 in
theorem dqX3_seek_p073 : dz_rn 72 (cX3_seek.data.toList.drop 72) [(2, 0), (0, 23), (1, 0), (0, 11), (0, 10), (0, 26), (1, 1), (0, 4), (3, 0), (0, 1), (1, 0), (0, 22), (0, 4), (3, 0)] = some [(72, .bipush 16, 2), (74, .imul, 1), (75, .iload 5, 2), (77, .iadd, 1), (78, .iaload, 1), (79, .isub, 1), (80, .istore 7, 2), (82, .aload_n 0, 1), (83, .getfield 15, 3), (86, .iload_n 1, 1), (87, .iload 4, 2), (89, .iastore, 1), (90, .aload_n 0, 1), (91, .getfield 21, 3)] := by decide +kernel
theorem dX3_seek_72 : decode cX3_seek 72 = .ok (.bipush 16, 2) := dz_at dqX3_seek_p073 0 rfl
theorem dX3_seek_74 : decode cX3_seek 74 = .ok (.imul, 1) := dz_at dqX3_seek_p073 1 rfl
theorem dX3_seek_75 : decode cX3_seek 75 = .ok (.iload 5, 2) := dz_at dqX3_seek_p073 2 rfl
theorem dX3_seek_77 : decode cX3_seek 77 = .ok (.iadd, 1) := dz_at dqX3_seek_p073 3 rfl
theorem dX3_seek_78 : decode cX3_seek 78 = .ok (.iaload, 1) := dz_at dqX3_seek_p073 4 rfl
theorem dX3_seek_79 : decode cX3_seek 79 = .ok (.isub, 1) := dz_at dqX3_seek_p073 5 rfl
theorem dX3_seek_80 : decode cX3_seek 80 = .ok (.istore 7, 2) := dz_at dqX3_seek_p073 6 rfl
theorem dX3_seek_82 : decode cX3_seek 82 = .ok (.aload_n 0, 1) := dz_at dqX3_seek_p073 7 rfl
theorem dX3_seek_83 : decode cX3_seek 83 = .ok (.getfield 15, 3) := dz_at dqX3_seek_p073 8 rfl
theorem dX3_seek_86 : decode cX3_seek 86 = .ok (.iload_n 1, 1) := dz_at dqX3_seek_p073 9 rfl
theorem dX3_seek_87 : decode cX3_seek 87 = .ok (.iload 4, 2) := dz_at dqX3_seek_p073 10 rfl
theorem dX3_seek_89 : decode cX3_seek 89 = .ok (.iastore, 1) := dz_at dqX3_seek_p073 11 rfl
theorem dX3_seek_90 : decode cX3_seek 90 = .ok (.aload_n 0, 1) := dz_at dqX3_seek_p073 12 rfl
theorem dX3_seek_91 : decode cX3_seek 91 = .ok (.getfield 21, 3) := dz_at dqX3_seek_p073 13 rfl
set_option maxRecDepth 20000 in
theorem dqX3_seek_p074 : dz_rn 94 (cX3_seek.data.toList.drop 94) [(1, 0), (1, 0), (0, 22), (0, 4), (0, 1), (0, 9), (0, 11), (0, 2), (0, 3), (1, 0), (0, 11), (3, 1), (0, 4), (3, 0)] = some [(94, .iload 4, 2), (96, .iload 6, 2), (98, .iastore, 1), (99, .aload_n 0, 1), (100, .iload_n 1, 1), (101, .iconst 1, 1), (102, .iadd, 1), (103, .iload_n 2, 1), (104, .iload_n 3, 1), (105, .iload 7, 2), (107, .iadd, 1), (108, .invokevirtual 69, 3), (111, .aload_n 0, 1), (112, .getfield 21, 3)] := by decide +kernel
theorem dX3_seek_94 : decode cX3_seek 94 = .ok (.iload 4, 2) := dz_at dqX3_seek_p074 0 rfl
theorem dX3_seek_96 : decode cX3_seek 96 = .ok (.iload 6, 2) := dz_at dqX3_seek_p074 1 rfl
theorem dX3_seek_98 : decode cX3_seek 98 = .ok (.iastore, 1) := dz_at dqX3_seek_p074 2 rfl
theorem dX3_seek_99 : decode cX3_seek 99 = .ok (.aload_n 0, 1) := dz_at dqX3_seek_p074 3 rfl
theorem dX3_seek_100 : decode cX3_seek 100 = .ok (.iload_n 1, 1) := dz_at dqX3_seek_p074 4 rfl
theorem dX3_seek_101 : decode cX3_seek 101 = .ok (.iconst 1, 1) := dz_at dqX3_seek_p074 5 rfl
theorem dX3_seek_102 : decode cX3_seek 102 = .ok (.iadd, 1) := dz_at dqX3_seek_p074 6 rfl
theorem dX3_seek_103 : decode cX3_seek 103 = .ok (.iload_n 2, 1) := dz_at dqX3_seek_p074 7 rfl
theorem dX3_seek_104 : decode cX3_seek 104 = .ok (.iload_n 3, 1) := dz_at dqX3_seek_p074 8 rfl
theorem dX3_seek_105 : decode cX3_seek 105 = .ok (.iload 7, 2) := dz_at dqX3_seek_p074 9 rfl
theorem dX3_seek_107 : decode cX3_seek 107 = .ok (.iadd, 1) := dz_at dqX3_seek_p074 10 rfl
theorem dX3_seek_108 : decode cX3_seek 108 = .ok (.invokevirtual 69, 3) := dz_at dqX3_seek_p074 11 rfl
theorem dX3_seek_111 : decode cX3_seek 111 = .ok (.aload_n 0, 1) := dz_at dqX3_seek_p074 12 rfl
theorem dX3_seek_112 : decode cX3_seek 112 = .ok (.getfield 21, 3) := dz_at dqX3_seek_p074 13 rfl
set_option maxRecDepth 20000 in
theorem dqX3_seek_p075 : dz_rn 115 (cX3_seek.data.toList.drop 115) [(1, 0), (1, 0), (0, 22), (5, 0), (4, 0), (0, 4), (3, 0), (0, 1), (2, 0), (0, 22), (0, 4), (0, 1), (0, 9), (0, 11)] = some [(115, .iload 4, 2), (117, .iload 5, 2), (119, .iastore, 1), (120, .iinc 4 1, 3), (123, .goto (-104), 3), (126, .aload_n 0, 1), (127, .getfield 15, 3), (130, .iload_n 1, 1), (131, .bipush 8, 2), (133, .iastore, 1), (134, .aload_n 0, 1), (135, .iload_n 1, 1), (136, .iconst 1, 1), (137, .iadd, 1)] := by decide +kernel
theorem dX3_seek_115 : decode cX3_seek 115 = .ok (.iload 4, 2) := dz_at dqX3_seek_p075 0 rfl
theorem dX3_seek_117 : decode cX3_seek 117 = .ok (.iload 5, 2) := dz_at dqX3_seek_p075 1 rfl
theorem dX3_seek_119 : decode cX3_seek 119 = .ok (.iastore, 1) := dz_at dqX3_seek_p075 2 rfl
theorem dX3_seek_120 : decode cX3_seek 120 = .ok (.iinc 4 1, 3) := dz_at dqX3_seek_p075 3 rfl
theorem dX3_seek_123 : decode cX3_seek 123 = .ok (.goto (-104), 3) := dz_at dqX3_seek_p075 4 rfl
theorem dX3_seek_126 : decode cX3_seek 126 = .ok (.aload_n 0, 1) := dz_at dqX3_seek_p075 5 rfl
theorem dX3_seek_127 : decode cX3_seek 127 = .ok (.getfield 15, 3) := dz_at dqX3_seek_p075 6 rfl
theorem dX3_seek_130 : decode cX3_seek 130 = .ok (.iload_n 1, 1) := dz_at dqX3_seek_p075 7 rfl
theorem dX3_seek_131 : decode cX3_seek 131 = .ok (.bipush 8, 2) := dz_at dqX3_seek_p075 8 rfl
theorem dX3_seek_133 : decode cX3_seek 133 = .ok (.iastore, 1) := dz_at dqX3_seek_p075 9 rfl
theorem dX3_seek_134 : decode cX3_seek 134 = .ok (.aload_n 0, 1) := dz_at dqX3_seek_p075 10 rfl
theorem dX3_seek_135 : decode cX3_seek 135 = .ok (.iload_n 1, 1) := dz_at dqX3_seek_p075 11 rfl
theorem dX3_seek_136 : decode cX3_seek 136 = .ok (.iconst 1, 1) := dz_at dqX3_seek_p075 12 rfl
theorem dX3_seek_137 : decode cX3_seek 137 = .ok (.iadd, 1) := dz_at dqX3_seek_p075 13 rfl
set_option maxRecDepth 20000 in
theorem dqX3_seek_p076 : dz_rn 138 (cX3_seek.data.toList.drop 138) [(0, 2), (0, 3), (3, 1), (0, 25)] = some [(138, .iload_n 2, 1), (139, .iload_n 3, 1), (140, .invokevirtual 69, 3), (143, .return_, 1)] := by decide +kernel
theorem dX3_seek_138 : decode cX3_seek 138 = .ok (.iload_n 2, 1) := dz_at dqX3_seek_p076 0 rfl
theorem dX3_seek_139 : decode cX3_seek 139 = .ok (.iload_n 3, 1) := dz_at dqX3_seek_p076 1 rfl
theorem dX3_seek_140 : decode cX3_seek 140 = .ok (.invokevirtual 69, 3) := dz_at dqX3_seek_p076 2 rfl
theorem dX3_seek_143 : decode cX3_seek 143 = .ok (.return_, 1) := dz_at dqX3_seek_p076 3 rfl
set_option maxRecDepth 20000 in
theorem dqX3_keepIfStronger_p070 : dz_rn 0 (cX3_keepIfStronger.data.toList.drop 0) [(0, 1), (0, 4), (3, 0), (4, 6), (0, 4), (0, 1), (3, 3), (0, 4), (3, 0), (0, 8), (0, 4), (3, 0), (0, 8), (0, 16)] = some [(0, .iload_n 1, 1), (1, .aload_n 0, 1), (2, .getfield 65, 3), (5, .if_icmp .le 22, 3), (8, .aload_n 0, 1), (9, .iload_n 1, 1), (10, .putfield 65, 3), (13, .aload_n 0, 1), (14, .getfield 15, 3), (17, .iconst 0, 1), (18, .aload_n 0, 1), (19, .getfield 18, 3), (22, .iconst 0, 1), (23, .iconst 4, 1)] := by decide +kernel
theorem dX3_keepIfStronger_0 : decode cX3_keepIfStronger 0 = .ok (.iload_n 1, 1) := dz_at dqX3_keepIfStronger_p070 0 rfl
theorem dX3_keepIfStronger_1 : decode cX3_keepIfStronger 1 = .ok (.aload_n 0, 1) := dz_at dqX3_keepIfStronger_p070 1 rfl
theorem dX3_keepIfStronger_2 : decode cX3_keepIfStronger 2 = .ok (.getfield 65, 3) := dz_at dqX3_keepIfStronger_p070 2 rfl
theorem dX3_keepIfStronger_5 : decode cX3_keepIfStronger 5 = .ok (.if_icmp .le 22, 3) := dz_at dqX3_keepIfStronger_p070 3 rfl
theorem dX3_keepIfStronger_8 : decode cX3_keepIfStronger 8 = .ok (.aload_n 0, 1) := dz_at dqX3_keepIfStronger_p070 4 rfl
theorem dX3_keepIfStronger_9 : decode cX3_keepIfStronger 9 = .ok (.iload_n 1, 1) := dz_at dqX3_keepIfStronger_p070 5 rfl
theorem dX3_keepIfStronger_10 : decode cX3_keepIfStronger 10 = .ok (.putfield 65, 3) := dz_at dqX3_keepIfStronger_p070 6 rfl
theorem dX3_keepIfStronger_13 : decode cX3_keepIfStronger 13 = .ok (.aload_n 0, 1) := dz_at dqX3_keepIfStronger_p070 7 rfl
theorem dX3_keepIfStronger_14 : decode cX3_keepIfStronger 14 = .ok (.getfield 15, 3) := dz_at dqX3_keepIfStronger_p070 8 rfl
theorem dX3_keepIfStronger_17 : decode cX3_keepIfStronger 17 = .ok (.iconst 0, 1) := dz_at dqX3_keepIfStronger_p070 9 rfl
theorem dX3_keepIfStronger_18 : decode cX3_keepIfStronger 18 = .ok (.aload_n 0, 1) := dz_at dqX3_keepIfStronger_p070 10 rfl
theorem dX3_keepIfStronger_19 : decode cX3_keepIfStronger 19 = .ok (.getfield 18, 3) := dz_at dqX3_keepIfStronger_p070 11 rfl
theorem dX3_keepIfStronger_22 : decode cX3_keepIfStronger 22 = .ok (.iconst 0, 1) := dz_at dqX3_keepIfStronger_p070 12 rfl
theorem dX3_keepIfStronger_23 : decode cX3_keepIfStronger 23 = .ok (.iconst 4, 1) := dz_at dqX3_keepIfStronger_p070 13 rfl
set_option maxRecDepth 20000 in
theorem dqX3_keepIfStronger_p071 : dz_rn 24 (cX3_keepIfStronger.data.toList.drop 24) [(3, 2), (0, 25)] = some [(24, .invokestatic 89, 3), (27, .return_, 1)] := by decide +kernel
theorem dX3_keepIfStronger_24 : decode cX3_keepIfStronger 24 = .ok (.invokestatic 89, 3) := dz_at dqX3_keepIfStronger_p071 0 rfl
theorem dX3_keepIfStronger_27 : decode cX3_keepIfStronger 27 = .ok (.return_, 1) := dz_at dqX3_keepIfStronger_p071 1 rfl
