section
set_option maxRecDepth 20000 in
theorem dqX3_init_p070 : dz_rn 0 (cX3_init.data.toList.drop 0) [(0, 4), (3, 5), (0, 4), (0, 16)] = some [(0, .aload_n 0, 1), (1, .invokespecial 3, 3), (4, .aload_n 0, 1), (5, .iconst 4, 1)] := by decide +kernel
theorem dX3_init_0 : decode cX3_init 0 = .ok (.aload_n 0, 1) := dz_at dqX3_init_p070 0 rfl
theorem dX3_init_1 : decode cX3_init 1 = .ok (.invokespecial 3, 3) := dz_at dqX3_init_p070 1 rfl
theorem dX3_init_4 : decode cX3_init 4 = .ok (.aload_n 0, 1) := dz_at dqX3_init_p070 2 rfl
theorem dX3_init_5 : decode cX3_init 5 = .ok (.iconst 4, 1) := dz_at dqX3_init_p070 3 rfl
theorem dX3_init_6 : decode cX3_init 6 = .ok (.newarray .int, 2) := by decide +kernel
set_option maxRecDepth 20000 in
theorem dqX3_init_p071 : dz_rn 8 (cX3_init.data.toList.drop 8) [(3, 3), (0, 4), (0, 16)] = some [(8, .putfield 9, 3), (11, .aload_n 0, 1), (12, .iconst 4, 1)] := by decide +kernel
theorem dX3_init_8 : decode cX3_init 8 = .ok (.putfield 9, 3) := dz_at dqX3_init_p071 0 rfl
theorem dX3_init_11 : decode cX3_init 11 = .ok (.aload_n 0, 1) := dz_at dqX3_init_p071 1 rfl
theorem dX3_init_12 : decode cX3_init 12 = .ok (.iconst 4, 1) := dz_at dqX3_init_p071 2 rfl
theorem dX3_init_13 : decode cX3_init 13 = .ok (.newarray .int, 2) := by decide +kernel
set_option maxRecDepth 20000 in
theorem dqX3_init_p072 : dz_rn 15 (cX3_init.data.toList.drop 15) [(3, 3), (0, 4), (0, 16)] = some [(15, .putfield 15, 3), (18, .aload_n 0, 1), (19, .iconst 4, 1)] := by decide +kernel
theorem dX3_init_15 : decode cX3_init 15 = .ok (.putfield 15, 3) := dz_at dqX3_init_p072 0 rfl
theorem dX3_init_18 : decode cX3_init 18 = .ok (.aload_n 0, 1) := dz_at dqX3_init_p072 1 rfl
theorem dX3_init_19 : decode cX3_init 19 = .ok (.iconst 4, 1) := dz_at dqX3_init_p072 2 rfl
theorem dX3_init_20 : decode cX3_init 20 = .ok (.newarray .int, 2) := by decide +kernel
set_option maxRecDepth 20000 in
theorem dqX3_init_p073 : dz_rn 22 (cX3_init.data.toList.drop 22) [(3, 3), (0, 4), (2, 0)] = some [(22, .putfield 18, 3), (25, .aload_n 0, 1), (26, .bipush 8, 2)] := by decide +kernel
theorem dX3_init_22 : decode cX3_init 22 = .ok (.putfield 18, 3) := dz_at dqX3_init_p073 0 rfl
theorem dX3_init_25 : decode cX3_init 25 = .ok (.aload_n 0, 1) := dz_at dqX3_init_p073 1 rfl
theorem dX3_init_26 : decode cX3_init 26 = .ok (.bipush 8, 2) := dz_at dqX3_init_p073 2 rfl
theorem dX3_init_28 : decode cX3_init 28 = .ok (.newarray .int, 2) := by decide +kernel
set_option maxRecDepth 20000 in
theorem dqX3_init_p074 : dz_rn 30 (cX3_init.data.toList.drop 30) [(3, 3), (0, 4), (2, 0)] = some [(30, .putfield 21, 3), (33, .aload_n 0, 1), (34, .bipush 8, 2)] := by decide +kernel
theorem dX3_init_30 : decode cX3_init 30 = .ok (.putfield 21, 3) := dz_at dqX3_init_p074 0 rfl
theorem dX3_init_33 : decode cX3_init 33 = .ok (.aload_n 0, 1) := dz_at dqX3_init_p074 1 rfl
theorem dX3_init_34 : decode cX3_init 34 = .ok (.bipush 8, 2) := dz_at dqX3_init_p074 2 rfl
theorem dX3_init_36 : decode cX3_init 36 = .ok (.newarray .int, 2) := by decide +kernel
set_option maxRecDepth 20000 in
theorem dqX3_init_p075 : dz_rn 38 (cX3_init.data.toList.drop 38) [(3, 3), (0, 4), (4, 13)] = some [(38, .putfield 24, 3), (41, .aload_n 0, 1), (42, .sipush 128, 3)] := by decide +kernel
theorem dX3_init_38 : decode cX3_init 38 = .ok (.putfield 24, 3) := dz_at dqX3_init_p075 0 rfl
theorem dX3_init_41 : decode cX3_init 41 = .ok (.aload_n 0, 1) := dz_at dqX3_init_p075 1 rfl
theorem dX3_init_42 : decode cX3_init 42 = .ok (.sipush 128, 3) := dz_at dqX3_init_p075 2 rfl
theorem dX3_init_45 : decode cX3_init 45 = .ok (.newarray .int, 2) := by decide +kernel
set_option maxRecDepth 20000 in
theorem dqX3_init_p076 : dz_rn 47 (cX3_init.data.toList.drop 47) [(3, 3), (0, 4), (0, 5), (3, 3), (0, 4), (0, 6), (3, 3), (0, 25)] = some [(47, .putfield 27, 3), (50, .aload_n 0, 1), (51, .aload_n 1, 1), (52, .putfield 30, 3), (55, .aload_n 0, 1), (56, .aload_n 2, 1), (57, .putfield 34, 3), (60, .return_, 1)] := by decide +kernel
theorem dX3_init_47 : decode cX3_init 47 = .ok (.putfield 27, 3) := dz_at dqX3_init_p076 0 rfl
theorem dX3_init_50 : decode cX3_init 50 = .ok (.aload_n 0, 1) := dz_at dqX3_init_p076 1 rfl
theorem dX3_init_51 : decode cX3_init 51 = .ok (.aload_n 1, 1) := dz_at dqX3_init_p076 2 rfl
theorem dX3_init_52 : decode cX3_init 52 = .ok (.putfield 30, 3) := dz_at dqX3_init_p076 3 rfl
theorem dX3_init_55 : decode cX3_init 55 = .ok (.aload_n 0, 1) := dz_at dqX3_init_p076 4 rfl
theorem dX3_init_56 : decode cX3_init 56 = .ok (.aload_n 2, 1) := dz_at dqX3_init_p076 5 rfl
theorem dX3_init_57 : decode cX3_init 57 = .ok (.putfield 34, 3) := dz_at dqX3_init_p076 6 rfl
theorem dX3_init_60 : decode cX3_init 60 = .ok (.return_, 1) := dz_at dqX3_init_p076 7 rfl
set_option maxRecDepth 20000 in
theorem ggX3_costOf_X8_between : GoodIn wsX3_costOf wsX8_between := goodIn_r _ [7, 8, 24, 25] rfl (by decide +kernel)
set_option maxRecDepth 20000 in
theorem gX3_costOf_X8_between : GoodIn wsX3_costOf (wsV RX3 38 RX8 yX8_between wsX8_between) := goodIn_app (goodIn_of _ (by decide +kernel)) ggX3_costOf_X8_between
set_option maxRecDepth 20000 in
theorem ggX3_costOf_X1_standingIn : GoodIn wsX3_costOf wsX1_standingIn := goodIn_r _ [13, 14, 26, 27, 28, 29, 30, 31, 32, 33, 34, 35, 36, 37, 38] rfl (by decide +kernel)
set_option maxRecDepth 20000 in
theorem gX3_costOf_X1_standingIn : GoodIn wsX3_costOf (wsV RX3 44 RX1 yX1_standingIn wsX1_standingIn) := goodIn_app (goodIn_of _ (by decide +kernel)) ggX3_costOf_X1_standingIn
set_option maxRecDepth 20000 in
theorem dqX3_costOf_p070 : dz_rn 0 (cX3_costOf.data.toList.drop 0) [(0, 4), (3, 0), (0, 8), (0, 1), (3, 1), (0, 20), (0, 2), (0, 13), (4, 2), (0, 13), (4, 0), (0, 14), (0, 2), (0, 23)] = some [(0, .aload_n 0, 1), (1, .getfield 34, 3), (4, .iconst 0, 1), (5, .iload_n 1, 1), (6, .invokevirtual 38, 3), (9, .istore_n 2, 1), (10, .iload_n 2, 1), (11, .iconst (-1), 1), (12, .if_icmp .ne 7, 3), (15, .iconst (-1), 1), (16, .goto 15, 3), (19, .iconst 2, 1), (20, .iload_n 2, 1), (21, .imul, 1)] := by decide +kernel
theorem dX3_costOf_0 : decode cX3_costOf 0 = .ok (.aload_n 0, 1) := dz_at dqX3_costOf_p070 0 rfl
theorem dX3_costOf_1 : decode cX3_costOf 1 = .ok (.getfield 34, 3) := dz_at dqX3_costOf_p070 1 rfl
theorem dX3_costOf_4 : decode cX3_costOf 4 = .ok (.iconst 0, 1) := dz_at dqX3_costOf_p070 2 rfl
theorem dX3_costOf_5 : decode cX3_costOf 5 = .ok (.iload_n 1, 1) := dz_at dqX3_costOf_p070 3 rfl
theorem dX3_costOf_6 : decode cX3_costOf 6 = .ok (.invokevirtual 38, 3) := dz_at dqX3_costOf_p070 4 rfl
theorem dX3_costOf_9 : decode cX3_costOf 9 = .ok (.istore_n 2, 1) := dz_at dqX3_costOf_p070 5 rfl
theorem dX3_costOf_10 : decode cX3_costOf 10 = .ok (.iload_n 2, 1) := dz_at dqX3_costOf_p070 6 rfl
theorem dX3_costOf_11 : decode cX3_costOf 11 = .ok (.iconst (-1), 1) := dz_at dqX3_costOf_p070 7 rfl
theorem dX3_costOf_12 : decode cX3_costOf 12 = .ok (.if_icmp .ne 7, 3) := dz_at dqX3_costOf_p070 8 rfl
theorem dX3_costOf_15 : decode cX3_costOf 15 = .ok (.iconst (-1), 1) := dz_at dqX3_costOf_p070 9 rfl
theorem dX3_costOf_16 : decode cX3_costOf 16 = .ok (.goto 15, 3) := dz_at dqX3_costOf_p070 10 rfl
theorem dX3_costOf_19 : decode cX3_costOf 19 = .ok (.iconst 2, 1) := dz_at dqX3_costOf_p070 11 rfl
theorem dX3_costOf_20 : decode cX3_costOf 20 = .ok (.iload_n 2, 1) := dz_at dqX3_costOf_p070 12 rfl
theorem dX3_costOf_21 : decode cX3_costOf 21 = .ok (.imul, 1) := dz_at dqX3_costOf_p070 13 rfl
set_option maxRecDepth 20000 in
theorem dqX3_costOf_p071 : dz_rn 22 (cX3_costOf.data.toList.drop 22) [(0, 4), (3, 0), (0, 1), (3, 1), (0, 11), (0, 12)] = some [(22, .aload_n 0, 1), (23, .getfield 30, 3), (26, .iload_n 1, 1), (27, .invokevirtual 44, 3), (30, .iadd, 1), (31, .ireturn, 1)] := by decide +kernel
theorem dX3_costOf_22 : decode cX3_costOf 22 = .ok (.aload_n 0, 1) := dz_at dqX3_costOf_p071 0 rfl
theorem dX3_costOf_23 : decode cX3_costOf 23 = .ok (.getfield 30, 3) := dz_at dqX3_costOf_p071 1 rfl
theorem dX3_costOf_26 : decode cX3_costOf 26 = .ok (.iload_n 1, 1) := dz_at dqX3_costOf_p071 2 rfl
theorem dX3_costOf_27 : decode cX3_costOf 27 = .ok (.invokevirtual 44, 3) := dz_at dqX3_costOf_p071 3 rfl
theorem dX3_costOf_30 : decode cX3_costOf 30 = .ok (.iadd, 1) := dz_at dqX3_costOf_p071 4 rfl
theorem dX3_costOf_31 : decode cX3_costOf 31 = .ok (.ireturn, 1) := dz_at dqX3_costOf_p071 5 rfl
set_option maxRecDepth 20000 in
theorem dqX3_takeMinutes_p070 : dz_rn 0 (cX3_takeMinutes.data.toList.drop 0) [(0, 8), (0, 21), (0, 3), (0, 2), (4, 4), (0, 4), (3, 0), (0, 3), (0, 1), (2, 0), (0, 3), (0, 23), (0, 32), (2, 0)] = some [(0, .iconst 0, 1), (1, .istore_n 3, 1), (2, .iload_n 3, 1), (3, .iload_n 2, 1), (4, .if_icmp .ge 37, 3), (7, .aload_n 0, 1), (8, .getfield 9, 3), (11, .iload_n 3, 1), (12, .iload_n 1, 1), (13, .bipush 7, 2), (15, .iload_n 3, 1), (16, .imul, 1), (17, .ishr, 1), (18, .bipush 127, 2)] := by decide +kernel
theorem dX3_takeMinutes_0 : decode cX3_takeMinutes 0 = .ok (.iconst 0, 1) := dz_at dqX3_takeMinutes_p070 0 rfl
theorem dX3_takeMinutes_1 : decode cX3_takeMinutes 1 = .ok (.istore_n 3, 1) := dz_at dqX3_takeMinutes_p070 1 rfl
theorem dX3_takeMinutes_2 : decode cX3_takeMinutes 2 = .ok (.iload_n 3, 1) := dz_at dqX3_takeMinutes_p070 2 rfl
theorem dX3_takeMinutes_3 : decode cX3_takeMinutes 3 = .ok (.iload_n 2, 1) := dz_at dqX3_takeMinutes_p070 3 rfl
theorem dX3_takeMinutes_4 : decode cX3_takeMinutes 4 = .ok (.if_icmp .ge 37, 3) := dz_at dqX3_takeMinutes_p070 4 rfl
theorem dX3_takeMinutes_7 : decode cX3_takeMinutes 7 = .ok (.aload_n 0, 1) := dz_at dqX3_takeMinutes_p070 5 rfl
theorem dX3_takeMinutes_8 : decode cX3_takeMinutes 8 = .ok (.getfield 9, 3) := dz_at dqX3_takeMinutes_p070 6 rfl
theorem dX3_takeMinutes_11 : decode cX3_takeMinutes 11 = .ok (.iload_n 3, 1) := dz_at dqX3_takeMinutes_p070 7 rfl
theorem dX3_takeMinutes_12 : decode cX3_takeMinutes 12 = .ok (.iload_n 1, 1) := dz_at dqX3_takeMinutes_p070 8 rfl
theorem dX3_takeMinutes_13 : decode cX3_takeMinutes 13 = .ok (.bipush 7, 2) := dz_at dqX3_takeMinutes_p070 9 rfl
theorem dX3_takeMinutes_15 : decode cX3_takeMinutes 15 = .ok (.iload_n 3, 1) := dz_at dqX3_takeMinutes_p070 10 rfl
theorem dX3_takeMinutes_16 : decode cX3_takeMinutes 16 = .ok (.imul, 1) := dz_at dqX3_takeMinutes_p070 11 rfl
theorem dX3_takeMinutes_17 : decode cX3_takeMinutes 17 = .ok (.ishr, 1) := dz_at dqX3_takeMinutes_p070 12 rfl
theorem dX3_takeMinutes_18 : decode cX3_takeMinutes 18 = .ok (.bipush 127, 2) := dz_at dqX3_takeMinutes_p070 13 rfl
set_option maxRecDepth 20000 in
theorem dqX3_takeMinutes_p071 : dz_rn 20 (cX3_takeMinutes.data.toList.drop 20) [(0, 29), (0, 22), (0, 4), (3, 0), (0, 3), (0, 10), (2, 0), (4, 6), (0, 8), (0, 12), (5, 0), (4, 0), (0, 9), (0, 12)] = some [(20, .iand, 1), (21, .iastore, 1), (22, .aload_n 0, 1), (23, .getfield 9, 3), (26, .iload_n 3, 1), (27, .iaload, 1), (28, .bipush 99, 2), (30, .if_icmp .le 5, 3), (33, .iconst 0, 1), (34, .ireturn, 1), (35, .iinc 3 1, 3), (38, .goto (-36), 3), (41, .iconst 1, 1), (42, .ireturn, 1)] := by decide +kernel
theorem dX3_takeMinutes_20 : decode cX3_takeMinutes 20 = .ok (.iand, 1) := dz_at dqX3_takeMinutes_p071 0 rfl
theorem dX3_takeMinutes_21 : decode cX3_takeMinutes 21 = .ok (.iastore, 1) := dz_at dqX3_takeMinutes_p071 1 rfl
theorem dX3_takeMinutes_22 : decode cX3_takeMinutes 22 = .ok (.aload_n 0, 1) := dz_at dqX3_takeMinutes_p071 2 rfl
theorem dX3_takeMinutes_23 : decode cX3_takeMinutes 23 = .ok (.getfield 9, 3) := dz_at dqX3_takeMinutes_p071 3 rfl
theorem dX3_takeMinutes_26 : decode cX3_takeMinutes 26 = .ok (.iload_n 3, 1) := dz_at dqX3_takeMinutes_p071 4 rfl
theorem dX3_takeMinutes_27 : decode cX3_takeMinutes 27 = .ok (.iaload, 1) := dz_at dqX3_takeMinutes_p071 5 rfl
theorem dX3_takeMinutes_28 : decode cX3_takeMinutes 28 = .ok (.bipush 99, 2) := dz_at dqX3_takeMinutes_p071 6 rfl
theorem dX3_takeMinutes_30 : decode cX3_takeMinutes 30 = .ok (.if_icmp .le 5, 3) := dz_at dqX3_takeMinutes_p071 7 rfl
theorem dX3_takeMinutes_33 : decode cX3_takeMinutes 33 = .ok (.iconst 0, 1) := dz_at dqX3_takeMinutes_p071 8 rfl
theorem dX3_takeMinutes_34 : decode cX3_takeMinutes 34 = .ok (.ireturn, 1) := dz_at dqX3_takeMinutes_p071 9 rfl
theorem dX3_takeMinutes_35 : decode cX3_takeMinutes 35 = .ok (.iinc 3 1, 3) := dz_at dqX3_takeMinutes_p071 10 rfl
theorem dX3_takeMinutes_38 : decode cX3_takeMinutes 38 = .ok (.goto (-36), 3) := dz_at dqX3_takeMinutes_p071 11 rfl
theorem dX3_takeMinutes_41 : decode cX3_takeMinutes 41 = .ok (.iconst 1, 1) := dz_at dqX3_takeMinutes_p071 12 rfl
theorem dX3_takeMinutes_42 : decode cX3_takeMinutes 42 = .ok (.ireturn, 1) := dz_at dqX3_takeMinutes_p071 13 rfl
set_option maxRecDepth 20000 in
theorem dqX3_takeRooms_p070 : dz_rn 0 (cX3_takeRooms.data.toList.drop 0) [(0, 8), (0, 21), (0, 3), (0, 2), (4, 4), (0, 4), (3, 0), (0, 3), (0, 1), (0, 16), (0, 3), (0, 23), (0, 32), (2, 0)] = some [(0, .iconst 0, 1), (1, .istore_n 3, 1), (2, .iload_n 3, 1), (3, .iload_n 2, 1), (4, .if_icmp .ge 36, 3), (7, .aload_n 0, 1), (8, .getfield 15, 3), (11, .iload_n 3, 1), (12, .iload_n 1, 1), (13, .iconst 4, 1), (14, .iload_n 3, 1), (15, .imul, 1), (16, .ishr, 1), (17, .bipush 15, 2)] := by decide +kernel
theorem dX3_takeRooms_0 : decode cX3_takeRooms 0 = .ok (.iconst 0, 1) := dz_at dqX3_takeRooms_p070 0 rfl
theorem dX3_takeRooms_1 : decode cX3_takeRooms 1 = .ok (.istore_n 3, 1) := dz_at dqX3_takeRooms_p070 1 rfl
theorem dX3_takeRooms_2 : decode cX3_takeRooms 2 = .ok (.iload_n 3, 1) := dz_at dqX3_takeRooms_p070 2 rfl
theorem dX3_takeRooms_3 : decode cX3_takeRooms 3 = .ok (.iload_n 2, 1) := dz_at dqX3_takeRooms_p070 3 rfl
theorem dX3_takeRooms_4 : decode cX3_takeRooms 4 = .ok (.if_icmp .ge 36, 3) := dz_at dqX3_takeRooms_p070 4 rfl
theorem dX3_takeRooms_7 : decode cX3_takeRooms 7 = .ok (.aload_n 0, 1) := dz_at dqX3_takeRooms_p070 5 rfl
theorem dX3_takeRooms_8 : decode cX3_takeRooms 8 = .ok (.getfield 15, 3) := dz_at dqX3_takeRooms_p070 6 rfl
theorem dX3_takeRooms_11 : decode cX3_takeRooms 11 = .ok (.iload_n 3, 1) := dz_at dqX3_takeRooms_p070 7 rfl
theorem dX3_takeRooms_12 : decode cX3_takeRooms 12 = .ok (.iload_n 1, 1) := dz_at dqX3_takeRooms_p070 8 rfl
theorem dX3_takeRooms_13 : decode cX3_takeRooms 13 = .ok (.iconst 4, 1) := dz_at dqX3_takeRooms_p070 9 rfl
theorem dX3_takeRooms_14 : decode cX3_takeRooms 14 = .ok (.iload_n 3, 1) := dz_at dqX3_takeRooms_p070 10 rfl
theorem dX3_takeRooms_15 : decode cX3_takeRooms 15 = .ok (.imul, 1) := dz_at dqX3_takeRooms_p070 11 rfl
theorem dX3_takeRooms_16 : decode cX3_takeRooms 16 = .ok (.ishr, 1) := dz_at dqX3_takeRooms_p070 12 rfl
theorem dX3_takeRooms_17 : decode cX3_takeRooms 17 = .ok (.bipush 15, 2) := dz_at dqX3_takeRooms_p070 13 rfl
set_option maxRecDepth 20000 in
theorem dqX3_takeRooms_p071 : dz_rn 19 (cX3_takeRooms.data.toList.drop 19) [(0, 29), (0, 22), (0, 4), (3, 0), (0, 3), (0, 10), (2, 0), (4, 6), (0, 8), (0, 12), (5, 0), (4, 0), (0, 9), (0, 12)] = some [(19, .iand, 1), (20, .iastore, 1), (21, .aload_n 0, 1), (22, .getfield 15, 3), (25, .iload_n 3, 1), (26, .iaload, 1), (27, .bipush 8, 2), (29, .if_icmp .le 5, 3), (32, .iconst 0, 1), (33, .ireturn, 1), (34, .iinc 3 1, 3), (37, .goto (-35), 3), (40, .iconst 1, 1), (41, .ireturn, 1)] := by decide +kernel
theorem dX3_takeRooms_19 : decode cX3_takeRooms 19 = .ok (.iand, 1) := dz_at dqX3_takeRooms_p071 0 rfl
theorem dX3_takeRooms_20 : decode cX3_takeRooms 20 = .ok (.iastore, 1) := dz_at dqX3_takeRooms_p071 1 rfl
theorem dX3_takeRooms_21 : decode cX3_takeRooms 21 = .ok (.aload_n 0, 1) := dz_at dqX3_takeRooms_p071 2 rfl
theorem dX3_takeRooms_22 : decode cX3_takeRooms 22 = .ok (.getfield 15, 3) := dz_at dqX3_takeRooms_p071 3 rfl
theorem dX3_takeRooms_25 : decode cX3_takeRooms 25 = .ok (.iload_n 3, 1) := dz_at dqX3_takeRooms_p071 4 rfl
theorem dX3_takeRooms_26 : decode cX3_takeRooms 26 = .ok (.iaload, 1) := dz_at dqX3_takeRooms_p071 5 rfl
theorem dX3_takeRooms_27 : decode cX3_takeRooms 27 = .ok (.bipush 8, 2) := dz_at dqX3_takeRooms_p071 6 rfl
theorem dX3_takeRooms_29 : decode cX3_takeRooms 29 = .ok (.if_icmp .le 5, 3) := dz_at dqX3_takeRooms_p071 7 rfl
theorem dX3_takeRooms_32 : decode cX3_takeRooms 32 = .ok (.iconst 0, 1) := dz_at dqX3_takeRooms_p071 8 rfl
theorem dX3_takeRooms_33 : decode cX3_takeRooms 33 = .ok (.ireturn, 1) := dz_at dqX3_takeRooms_p071 9 rfl
theorem dX3_takeRooms_34 : decode cX3_takeRooms 34 = .ok (.iinc 3 1, 3) := dz_at dqX3_takeRooms_p071 10 rfl
theorem dX3_takeRooms_37 : decode cX3_takeRooms 37 = .ok (.goto (-35), 3) := dz_at dqX3_takeRooms_p071 11 rfl
theorem dX3_takeRooms_40 : decode cX3_takeRooms 40 = .ok (.iconst 1, 1) := dz_at dqX3_takeRooms_p071 12 rfl
theorem dX3_takeRooms_41 : decode cX3_takeRooms 41 = .ok (.ireturn, 1) := dz_at dqX3_takeRooms_p071 13 rfl
set_option maxRecDepth 20000 in
theorem ggX3_strengthBehindTrial_X3_prepare : GoodIn wsX3_strengthBehindTrial wsX3_prepare := goodIn_r _ [7, 8, 9, 2, 10, 11, 12, 13, 14, 15, 16, 17, 18, 19, 20, 21, 22, 23, 24, 25, 26, 27, 28, 29, 30, 31, 32, 33, 34, 35, 36, 37, 38, 39, 40, 41, 42, 6, 43, 44, 45, 46, 47, 48, 49, 50, 51, 52, 53, 54, 89, 90, 91, 92, 93, 94, 95, 96, 97, 98, 99, 100, 101, 102, 103, 104, 105, 106, 107, 108, 109, 110, 111, 112, 113] rfl (by decide +kernel)
set_option maxRecDepth 20000 in
theorem gX3_strengthBehindTrial_X3_prepare : GoodIn wsX3_strengthBehindTrial (wsV RX3 50 RX3 yX3_prepare wsX3_prepare) := goodIn_app (goodIn_of _ (by decide +kernel)) ggX3_strengthBehindTrial_X3_prepare
set_option maxRecDepth 20000 in
theorem ggX3_strengthBehindTrial_X9_isRoom : GoodIn wsX3_strengthBehindTrial wsX9_isRoom := goodIn_r _ [57, 58, 59, 56, 60] rfl (by decide +kernel)
set_option maxRecDepth 20000 in
theorem gX3_strengthBehindTrial_X9_isRoom_n53 : GoodIn wsX3_strengthBehindTrial (wsX9_isRoom) := ggX3_strengthBehindTrial_X9_isRoom
set_option maxRecDepth 20000 in
theorem ggX3_strengthBehindTrial_X3_walkable : GoodIn wsX3_strengthBehindTrial wsX3_walkable := goodIn_r _ [64, 9, 65, 89, 90, 91, 92, 93, 94, 95, 96, 97] rfl (by decide +kernel)
set_option maxRecDepth 20000 in
theorem gX3_strengthBehindTrial_X3_walkable : GoodIn wsX3_strengthBehindTrial (wsV RX3 57 RX3 yX3_walkable wsX3_walkable) := goodIn_app (goodIn_of _ (by decide +kernel)) ggX3_strengthBehindTrial_X3_walkable
set_option maxRecDepth 20000 in
theorem ggX3_strengthBehindTrial_X3_strengthOfRoom : GoodIn wsX3_strengthBehindTrial wsX3_strengthOfRoom := goodIn_r _ [69, 8, 70, 71, 72, 13, 73, 74, 15, 75, 76, 77, 78, 79, 80, 81, 82, 83, 84, 85, 86, 87, 88, 89, 90, 91, 92, 93, 94, 95, 96, 97, 98, 99, 100, 101, 102, 103, 104, 105, 106, 107, 108, 109, 110] rfl (by decide +kernel)
set_option maxRecDepth 20000 in
theorem gX3_strengthBehindTrial_X3_strengthOfRoom : GoodIn wsX3_strengthBehindTrial (wsV RX3 61 RX3 yX3_strengthOfRoom wsX3_strengthOfRoom) := goodIn_app (goodIn_of _ (by decide +kernel)) ggX3_strengthBehindTrial_X3_strengthOfRoom
set_option maxRecDepth 20000 in
theorem dqX3_strengthBehindTrial_p070 : dz_rn 0 (cX3_strengthBehindTrial.data.toList.drop 0) [(0, 4), (3, 1), (0, 8), (0, 20), (0, 2), (0, 1), (4, 4), (0, 4), (3, 0), (0, 2), (0, 10), (0, 21), (0, 3), (3, 2)] = some [(0, .aload_n 0, 1), (1, .invokevirtual 50, 3), (4, .iconst 0, 1), (5, .istore_n 2, 1), (6, .iload_n 2, 1), (7, .iload_n 1, 1), (8, .if_icmp .ge 46, 3), (11, .aload_n 0, 1), (12, .getfield 15, 3), (15, .iload_n 2, 1), (16, .iaload, 1), (17, .istore_n 3, 1), (18, .iload_n 3, 1), (19, .invokestatic 53, 3)] := by decide +kernel
theorem dX3_strengthBehindTrial_0 : decode cX3_strengthBehindTrial 0 = .ok (.aload_n 0, 1) := dz_at dqX3_strengthBehindTrial_p070 0 rfl
theorem dX3_strengthBehindTrial_1 : decode cX3_strengthBehindTrial 1 = .ok (.invokevirtual 50, 3) := dz_at dqX3_strengthBehindTrial_p070 1 rfl
theorem dX3_strengthBehindTrial_4 : decode cX3_strengthBehindTrial 4 = .ok (.iconst 0, 1) := dz_at dqX3_strengthBehindTrial_p070 2 rfl
theorem dX3_strengthBehindTrial_5 : decode cX3_strengthBehindTrial 5 = .ok (.istore_n 2, 1) := dz_at dqX3_strengthBehindTrial_p070 3 rfl
theorem dX3_strengthBehindTrial_6 : decode cX3_strengthBehindTrial 6 = .ok (.iload_n 2, 1) := dz_at dqX3_strengthBehindTrial_p070 4 rfl
theorem dX3_strengthBehindTrial_7 : decode cX3_strengthBehindTrial 7 = .ok (.iload_n 1, 1) := dz_at dqX3_strengthBehindTrial_p070 5 rfl
theorem dX3_strengthBehindTrial_8 : decode cX3_strengthBehindTrial 8 = .ok (.if_icmp .ge 46, 3) := dz_at dqX3_strengthBehindTrial_p070 6 rfl
theorem dX3_strengthBehindTrial_11 : decode cX3_strengthBehindTrial 11 = .ok (.aload_n 0, 1) := dz_at dqX3_strengthBehindTrial_p070 7 rfl
theorem dX3_strengthBehindTrial_12 : decode cX3_strengthBehindTrial 12 = .ok (.getfield 15, 3) := dz_at dqX3_strengthBehindTrial_p070 8 rfl
theorem dX3_strengthBehindTrial_15 : decode cX3_strengthBehindTrial 15 = .ok (.iload_n 2, 1) := dz_at dqX3_strengthBehindTrial_p070 9 rfl
theorem dX3_strengthBehindTrial_16 : decode cX3_strengthBehindTrial 16 = .ok (.iaload, 1) := dz_at dqX3_strengthBehindTrial_p070 10 rfl
theorem dX3_strengthBehindTrial_17 : decode cX3_strengthBehindTrial 17 = .ok (.istore_n 3, 1) := dz_at dqX3_strengthBehindTrial_p070 11 rfl
theorem dX3_strengthBehindTrial_18 : decode cX3_strengthBehindTrial 18 = .ok (.iload_n 3, 1) := dz_at dqX3_strengthBehindTrial_p070 12 rfl
theorem dX3_strengthBehindTrial_19 : decode cX3_strengthBehindTrial 19 = .ok (.invokestatic 53, 3) := dz_at dqX3_strengthBehindTrial_p070 13 rfl
set_option maxRecDepth 20000 in
theorem dqX3_strengthBehindTrial_p071 : dz_rn 22 (cX3_strengthBehindTrial.data.toList.drop 22) [(4, 7), (0, 4), (0, 3), (0, 2), (3, 1), (4, 8), (0, 13), (0, 12), (0, 4), (3, 0), (0, 3), (0, 41), (0, 10), (0, 9)] = some [(22, .ifCond .eq 26, 3), (25, .aload_n 0, 1), (26, .iload_n 3, 1), (27, .iload_n 2, 1), (28, .invokevirtual 57, 3), (31, .ifCond .ne 5, 3), (34, .iconst (-1), 1), (35, .ireturn, 1), (36, .aload_n 0, 1), (37, .getfield 21, 3), (40, .iload_n 3, 1), (41, .dup2, 1), (42, .iaload, 1), (43, .iconst 1, 1)] := by decide +kernel
theorem dX3_strengthBehindTrial_22 : decode cX3_strengthBehindTrial 22 = .ok (.ifCond .eq 26, 3) := dz_at dqX3_strengthBehindTrial_p071 0 rfl
theorem dX3_strengthBehindTrial_25 : decode cX3_strengthBehindTrial 25 = .ok (.aload_n 0, 1) := dz_at dqX3_strengthBehindTrial_p071 1 rfl
theorem dX3_strengthBehindTrial_26 : decode cX3_strengthBehindTrial 26 = .ok (.iload_n 3, 1) := dz_at dqX3_strengthBehindTrial_p071 2 rfl
theorem dX3_strengthBehindTrial_27 : decode cX3_strengthBehindTrial 27 = .ok (.iload_n 2, 1) := dz_at dqX3_strengthBehindTrial_p071 3 rfl
theorem dX3_strengthBehindTrial_28 : decode cX3_strengthBehindTrial 28 = .ok (.invokevirtual 57, 3) := dz_at dqX3_strengthBehindTrial_p071 4 rfl
theorem dX3_strengthBehindTrial_31 : decode cX3_strengthBehindTrial 31 = .ok (.ifCond .ne 5, 3) := dz_at dqX3_strengthBehindTrial_p071 5 rfl
theorem dX3_strengthBehindTrial_34 : decode cX3_strengthBehindTrial 34 = .ok (.iconst (-1), 1) := dz_at dqX3_strengthBehindTrial_p071 6 rfl
theorem dX3_strengthBehindTrial_35 : decode cX3_strengthBehindTrial 35 = .ok (.ireturn, 1) := dz_at dqX3_strengthBehindTrial_p071 7 rfl
theorem dX3_strengthBehindTrial_36 : decode cX3_strengthBehindTrial 36 = .ok (.aload_n 0, 1) := dz_at dqX3_strengthBehindTrial_p071 8 rfl
theorem dX3_strengthBehindTrial_37 : decode cX3_strengthBehindTrial 37 = .ok (.getfield 21, 3) := dz_at dqX3_strengthBehindTrial_p071 9 rfl
theorem dX3_strengthBehindTrial_40 : decode cX3_strengthBehindTrial 40 = .ok (.iload_n 3, 1) := dz_at dqX3_strengthBehindTrial_p071 10 rfl
theorem dX3_strengthBehindTrial_41 : decode cX3_strengthBehindTrial 41 = .ok (.dup2, 1) := dz_at dqX3_strengthBehindTrial_p071 11 rfl
theorem dX3_strengthBehindTrial_42 : decode cX3_strengthBehindTrial 42 = .ok (.iaload, 1) := dz_at dqX3_strengthBehindTrial_p071 12 rfl
theorem dX3_strengthBehindTrial_43 : decode cX3_strengthBehindTrial 43 = .ok (.iconst 1, 1) := dz_at dqX3_strengthBehindTrial_p071 13 rfl
set_option maxRecDepth 20000 in
theorem dqX3_strengthBehindTrial_p072 : dz_rn 44 (cX3_strengthBehindTrial.data.toList.drop 44) [(0, 2), (0, 31), (0, 39), (0, 22), (5, 0), (4, 0), (0, 8), (0, 20), (0, 8), (0, 21), (0, 3), (2, 0), (4, 4), (0, 2)] = some [(44, .iload_n 2, 1), (45, .ishl, 1), (46, .ior, 1), (47, .iastore, 1), (48, .iinc 2 1, 3), (51, .goto (-45), 3), (54, .iconst 0, 1), (55, .istore_n 2, 1), (56, .iconst 0, 1), (57, .istore_n 3, 1), (58, .iload_n 3, 1), (59, .bipush 8, 2), (61, .if_icmp .ge 24, 3), (64, .iload_n 2, 1)] := by decide +kernel
theorem dX3_strengthBehindTrial_44 : decode cX3_strengthBehindTrial 44 = .ok (.iload_n 2, 1) := dz_at dqX3_strengthBehindTrial_p072 0 rfl
theorem dX3_strengthBehindTrial_45 : decode cX3_strengthBehindTrial 45 = .ok (.ishl, 1) := dz_at dqX3_strengthBehindTrial_p072 1 rfl
theorem dX3_strengthBehindTrial_46 : decode cX3_strengthBehindTrial 46 = .ok (.ior, 1) := dz_at dqX3_strengthBehindTrial_p072 2 rfl
theorem dX3_strengthBehindTrial_47 : decode cX3_strengthBehindTrial 47 = .ok (.iastore, 1) := dz_at dqX3_strengthBehindTrial_p072 3 rfl
theorem dX3_strengthBehindTrial_48 : decode cX3_strengthBehindTrial 48 = .ok (.iinc 2 1, 3) := dz_at dqX3_strengthBehindTrial_p072 4 rfl
theorem dX3_strengthBehindTrial_51 : decode cX3_strengthBehindTrial 51 = .ok (.goto (-45), 3) := dz_at dqX3_strengthBehindTrial_p072 5 rfl
theorem dX3_strengthBehindTrial_54 : decode cX3_strengthBehindTrial 54 = .ok (.iconst 0, 1) := dz_at dqX3_strengthBehindTrial_p072 6 rfl
theorem dX3_strengthBehindTrial_55 : decode cX3_strengthBehindTrial 55 = .ok (.istore_n 2, 1) := dz_at dqX3_strengthBehindTrial_p072 7 rfl
theorem dX3_strengthBehindTrial_56 : decode cX3_strengthBehindTrial 56 = .ok (.iconst 0, 1) := dz_at dqX3_strengthBehindTrial_p072 8 rfl
theorem dX3_strengthBehindTrial_57 : decode cX3_strengthBehindTrial 57 = .ok (.istore_n 3, 1) := dz_at dqX3_strengthBehindTrial_p072 9 rfl
theorem dX3_strengthBehindTrial_58 : decode cX3_strengthBehindTrial 58 = .ok (.iload_n 3, 1) := dz_at dqX3_strengthBehindTrial_p072 10 rfl
theorem dX3_strengthBehindTrial_59 : decode cX3_strengthBehindTrial 59 = .ok (.bipush 8, 2) := dz_at dqX3_strengthBehindTrial_p072 11 rfl
theorem dX3_strengthBehindTrial_61 : decode cX3_strengthBehindTrial 61 = .ok (.if_icmp .ge 24, 3) := dz_at dqX3_strengthBehindTrial_p072 12 rfl
theorem dX3_strengthBehindTrial_64 : decode cX3_strengthBehindTrial 64 = .ok (.iload_n 2, 1) := dz_at dqX3_strengthBehindTrial_p072 13 rfl
set_option maxRecDepth 20000 in
theorem dqX3_strengthBehindTrial_p073 : dz_rn 65 (cX3_strengthBehindTrial.data.toList.drop 65) [(0, 4), (0, 3), (0, 1), (0, 4), (3, 0), (0, 3), (0, 10), (3, 1), (0, 11), (0, 20), (5, 0), (4, 0), (0, 2), (0, 12)] = some [(65, .aload_n 0, 1), (66, .iload_n 3, 1), (67, .iload_n 1, 1), (68, .aload_n 0, 1), (69, .getfield 21, 3), (72, .iload_n 3, 1), (73, .iaload, 1), (74, .invokevirtual 61, 3), (77, .iadd, 1), (78, .istore_n 2, 1), (79, .iinc 3 1, 3), (82, .goto (-24), 3), (85, .iload_n 2, 1), (86, .ireturn, 1)] := by decide +kernel
theorem dX3_strengthBehindTrial_65 : decode cX3_strengthBehindTrial 65 = .ok (.aload_n 0, 1) := dz_at dqX3_strengthBehindTrial_p073 0 rfl
theorem dX3_strengthBehindTrial_66 : decode cX3_strengthBehindTrial 66 = .ok (.iload_n 3, 1) := dz_at dqX3_strengthBehindTrial_p073 1 rfl
theorem dX3_strengthBehindTrial_67 : decode cX3_strengthBehindTrial 67 = .ok (.iload_n 1, 1) := dz_at dqX3_strengthBehindTrial_p073 2 rfl
theorem dX3_strengthBehindTrial_68 : decode cX3_strengthBehindTrial 68 = .ok (.aload_n 0, 1) := dz_at dqX3_strengthBehindTrial_p073 3 rfl
theorem dX3_strengthBehindTrial_69 : decode cX3_strengthBehindTrial 69 = .ok (.getfield 21, 3) := dz_at dqX3_strengthBehindTrial_p073 4 rfl
theorem dX3_strengthBehindTrial_72 : decode cX3_strengthBehindTrial 72 = .ok (.iload_n 3, 1) := dz_at dqX3_strengthBehindTrial_p073 5 rfl
theorem dX3_strengthBehindTrial_73 : decode cX3_strengthBehindTrial 73 = .ok (.iaload, 1) := dz_at dqX3_strengthBehindTrial_p073 6 rfl
theorem dX3_strengthBehindTrial_74 : decode cX3_strengthBehindTrial 74 = .ok (.invokevirtual 61, 3) := dz_at dqX3_strengthBehindTrial_p073 7 rfl
theorem dX3_strengthBehindTrial_77 : decode cX3_strengthBehindTrial 77 = .ok (.iadd, 1) := dz_at dqX3_strengthBehindTrial_p073 8 rfl
theorem dX3_strengthBehindTrial_78 : decode cX3_strengthBehindTrial 78 = .ok (.istore_n 2, 1) := dz_at dqX3_strengthBehindTrial_p073 9 rfl
theorem dX3_strengthBehindTrial_79 : decode cX3_strengthBehindTrial 79 = .ok (.iinc 3 1, 3) := dz_at dqX3_strengthBehindTrial_p073 10 rfl
theorem dX3_strengthBehindTrial_82 : decode cX3_strengthBehindTrial 82 = .ok (.goto (-24), 3) := dz_at dqX3_strengthBehindTrial_p073 11 rfl
theorem dX3_strengthBehindTrial_85 : decode cX3_strengthBehindTrial 85 = .ok (.iload_n 2, 1) := dz_at dqX3_strengthBehindTrial_p073 12 rfl
theorem dX3_strengthBehindTrial_86 : decode cX3_strengthBehindTrial 86 = .ok (.ireturn, 1) := dz_at dqX3_strengthBehindTrial_p073 13 rfl
set_option maxRecDepth 20000 in
theorem ggX3_findBest_X3_prepare : GoodIn wsX3_findBest wsX3_prepare := goodIn_r _ [7, 8, 9, 10, 11, 12, 13, 14, 15, 16, 17, 18, 19, 20, 21, 22, 23, 24, 25, 26, 27, 28, 29, 30, 31, 32, 33, 34, 35, 36, 37, 38, 39, 40, 41, 42, 43, 6, 44, 45, 46, 47, 48, 49, 50, 51, 52, 53, 54, 55, 98, 99, 100, 101, 102, 103, 104, 105, 106, 107, 108, 109, 110, 111, 112, 113, 114, 115, 116, 117, 118, 119, 120, 121, 122] rfl (by decide +kernel)
set_option maxRecDepth 20000 in
theorem gX3_findBest_X3_prepare : GoodIn wsX3_findBest (wsV RX3 50 RX3 yX3_prepare wsX3_prepare) := goodIn_app (goodIn_of _ (by decide +kernel)) ggX3_findBest_X3_prepare
set_option maxRecDepth 20000 in
theorem ggX3_findBest_X3_strengthOfRoom : GoodIn wsX3_findBest wsX3_strengthOfRoom := goodIn_r _ [59, 8, 60, 61, 62, 14, 63, 64, 16, 65, 66, 67, 68, 69, 70, 71, 72, 73, 74, 75, 76, 77, 78, 98, 99, 100, 101, 102, 103, 104, 105, 106, 107, 108, 109, 110, 111, 112, 113, 114, 115, 116, 117, 118, 119] rfl (by decide +kernel)
set_option maxRecDepth 20000 in
theorem gX3_findBest_X3_strengthOfRoom : GoodIn wsX3_findBest (wsV RX3 61 RX3 yX3_strengthOfRoom wsX3_strengthOfRoom) := goodIn_app (goodIn_of _ (by decide +kernel)) ggX3_findBest_X3_strengthOfRoom
set_option maxRecDepth 20000 in
theorem ggX3_findBest_X3_seek : GoodIn wsX3_findBest wsX3_seek := goodIn_r _ [82, 10, 1, 83, 84, 85, 86, 6, 87, 2, 88, 89, 90, 91, 92, 93, 94, 95, 96, 9, 97, 79, 80, 81, 98, 99, 100, 101, 102, 103, 104, 105, 106] rfl (by decide +kernel)
set_option maxRecDepth 20000 in
theorem gX3_findBest_X3_seek : GoodIn wsX3_findBest (wsV RX3 69 RX3 yX3_seek wsX3_seek) := goodIn_app (goodIn_of _ (by decide +kernel)) ggX3_findBest_X3_seek
set_option maxRecDepth 20000 in
theorem dqX3_findBest_p070 : dz_rn 0 (cX3_findBest.data.toList.drop 0) [(0, 4), (3, 1), (0, 8), (0, 20), (0, 8), (0, 21), (0, 3), (2, 0), (4, 4), (0, 8), (1, 1), (1, 0), (0, 9), (0, 1)] = some [(0, .aload_n 0, 1), (1, .invokevirtual 50, 3), (4, .iconst 0, 1), (5, .istore_n 2, 1), (6, .iconst 0, 1), (7, .istore_n 3, 1), (8, .iload_n 3, 1), (9, .bipush 8, 2), (11, .if_icmp .ge 58, 3), (14, .iconst 0, 1), (15, .istore 4, 2), (17, .iload 4, 2), (19, .iconst 1, 1), (20, .iload_n 1, 1)] := by decide +kernel
theorem dX3_findBest_0 : decode cX3_findBest 0 = .ok (.aload_n 0, 1) := dz_at dqX3_findBest_p070 0 rfl
theorem dX3_findBest_1 : decode cX3_findBest 1 = .ok (.invokevirtual 50, 3) := dz_at dqX3_findBest_p070 1 rfl
theorem dX3_findBest_4 : decode cX3_findBest 4 = .ok (.iconst 0, 1) := dz_at dqX3_findBest_p070 2 rfl
theorem dX3_findBest_5 : decode cX3_findBest 5 = .ok (.istore_n 2, 1) := dz_at dqX3_findBest_p070 3 rfl
theorem dX3_findBest_6 : decode cX3_findBest 6 = .ok (.iconst 0, 1) := dz_at dqX3_findBest_p070 4 rfl
theorem dX3_findBest_7 : decode cX3_findBest 7 = .ok (.istore_n 3, 1) := dz_at dqX3_findBest_p070 5 rfl
theorem dX3_findBest_8 : decode cX3_findBest 8 = .ok (.iload_n 3, 1) := dz_at dqX3_findBest_p070 6 rfl
theorem dX3_findBest_9 : decode cX3_findBest 9 = .ok (.bipush 8, 2) := dz_at dqX3_findBest_p070 7 rfl
theorem dX3_findBest_11 : decode cX3_findBest 11 = .ok (.if_icmp .ge 58, 3) := dz_at dqX3_findBest_p070 8 rfl
theorem dX3_findBest_14 : decode cX3_findBest 14 = .ok (.iconst 0, 1) := dz_at dqX3_findBest_p070 9 rfl
theorem dX3_findBest_15 : decode cX3_findBest 15 = .ok (.istore 4, 2) := dz_at dqX3_findBest_p070 10 rfl
theorem dX3_findBest_17 : decode cX3_findBest 17 = .ok (.iload 4, 2) := dz_at dqX3_findBest_p070 11 rfl
theorem dX3_findBest_19 : decode cX3_findBest 19 = .ok (.iconst 1, 1) := dz_at dqX3_findBest_p070 12 rfl
theorem dX3_findBest_20 : decode cX3_findBest 20 = .ok (.iload_n 1, 1) := dz_at dqX3_findBest_p070 13 rfl
set_option maxRecDepth 20000 in
theorem dqX3_findBest_p071 : dz_rn 21 (cX3_findBest.data.toList.drop 21) [(0, 31), (4, 4), (0, 4), (3, 0), (0, 3), (2, 0), (0, 23), (1, 0), (0, 11), (0, 4), (0, 3), (0, 1), (1, 0), (3, 1)] = some [(21, .ishl, 1), (22, .if_icmp .ge 29, 3), (25, .aload_n 0, 1), (26, .getfield 27, 3), (29, .iload_n 3, 1), (30, .bipush 16, 2), (32, .imul, 1), (33, .iload 4, 2), (35, .iadd, 1), (36, .aload_n 0, 1), (37, .iload_n 3, 1), (38, .iload_n 1, 1), (39, .iload 4, 2), (41, .invokevirtual 61, 3)] := by decide +kernel
theorem dX3_findBest_21 : decode cX3_findBest 21 = .ok (.ishl, 1) := dz_at dqX3_findBest_p071 0 rfl
theorem dX3_findBest_22 : decode cX3_findBest 22 = .ok (.if_icmp .ge 29, 3) := dz_at dqX3_findBest_p071 1 rfl
theorem dX3_findBest_25 : decode cX3_findBest 25 = .ok (.aload_n 0, 1) := dz_at dqX3_findBest_p071 2 rfl
theorem dX3_findBest_26 : decode cX3_findBest 26 = .ok (.getfield 27, 3) := dz_at dqX3_findBest_p071 3 rfl
theorem dX3_findBest_29 : decode cX3_findBest 29 = .ok (.iload_n 3, 1) := dz_at dqX3_findBest_p071 4 rfl
theorem dX3_findBest_30 : decode cX3_findBest 30 = .ok (.bipush 16, 2) := dz_at dqX3_findBest_p071 5 rfl
theorem dX3_findBest_32 : decode cX3_findBest 32 = .ok (.imul, 1) := dz_at dqX3_findBest_p071 6 rfl
theorem dX3_findBest_33 : decode cX3_findBest 33 = .ok (.iload 4, 2) := dz_at dqX3_findBest_p071 7 rfl
theorem dX3_findBest_35 : decode cX3_findBest 35 = .ok (.iadd, 1) := dz_at dqX3_findBest_p071 8 rfl
theorem dX3_findBest_36 : decode cX3_findBest 36 = .ok (.aload_n 0, 1) := dz_at dqX3_findBest_p071 9 rfl
theorem dX3_findBest_37 : decode cX3_findBest 37 = .ok (.iload_n 3, 1) := dz_at dqX3_findBest_p071 10 rfl
theorem dX3_findBest_38 : decode cX3_findBest 38 = .ok (.iload_n 1, 1) := dz_at dqX3_findBest_p071 11 rfl
theorem dX3_findBest_39 : decode cX3_findBest 39 = .ok (.iload 4, 2) := dz_at dqX3_findBest_p071 12 rfl
theorem dX3_findBest_41 : decode cX3_findBest 41 = .ok (.invokevirtual 61, 3) := dz_at dqX3_findBest_p071 13 rfl
set_option maxRecDepth 20000 in
theorem dqX3_findBest_p072 : dz_rn 44 (cX3_findBest.data.toList.drop 44) [(0, 22), (5, 0), (4, 0), (0, 2), (0, 4), (3, 0), (0, 3), (2, 0), (0, 23), (0, 10), (0, 11), (0, 20), (5, 0), (4, 0)] = some [(44, .iastore, 1), (45, .iinc 4 1, 3), (48, .goto (-31), 3), (51, .iload_n 2, 1), (52, .aload_n 0, 1), (53, .getfield 27, 3), (56, .iload_n 3, 1), (57, .bipush 16, 2), (59, .imul, 1), (60, .iaload, 1), (61, .iadd, 1), (62, .istore_n 2, 1), (63, .iinc 3 1, 3), (66, .goto (-58), 3)] := by decide +kernel
theorem dX3_findBest_44 : decode cX3_findBest 44 = .ok (.iastore, 1) := dz_at dqX3_findBest_p072 0 rfl
theorem dX3_findBest_45 : decode cX3_findBest 45 = .ok (.iinc 4 1, 3) := dz_at dqX3_findBest_p072 1 rfl
theorem dX3_findBest_48 : decode cX3_findBest 48 = .ok (.goto (-31), 3) := dz_at dqX3_findBest_p072 2 rfl
theorem dX3_findBest_51 : decode cX3_findBest 51 = .ok (.iload_n 2, 1) := dz_at dqX3_findBest_p072 3 rfl
theorem dX3_findBest_52 : decode cX3_findBest 52 = .ok (.aload_n 0, 1) := dz_at dqX3_findBest_p072 4 rfl
theorem dX3_findBest_53 : decode cX3_findBest 53 = .ok (.getfield 27, 3) := dz_at dqX3_findBest_p072 5 rfl
theorem dX3_findBest_56 : decode cX3_findBest 56 = .ok (.iload_n 3, 1) := dz_at dqX3_findBest_p072 6 rfl
theorem dX3_findBest_57 : decode cX3_findBest 57 = .ok (.bipush 16, 2) := dz_at dqX3_findBest_p072 7 rfl
theorem dX3_findBest_59 : decode cX3_findBest 59 = .ok (.imul, 1) := dz_at dqX3_findBest_p072 8 rfl
theorem dX3_findBest_60 : decode cX3_findBest 60 = .ok (.iaload, 1) := dz_at dqX3_findBest_p072 9 rfl
theorem dX3_findBest_61 : decode cX3_findBest 61 = .ok (.iadd, 1) := dz_at dqX3_findBest_p072 10 rfl
theorem dX3_findBest_62 : decode cX3_findBest 62 = .ok (.istore_n 2, 1) := dz_at dqX3_findBest_p072 11 rfl
theorem dX3_findBest_63 : decode cX3_findBest 63 = .ok (.iinc 3 1, 3) := dz_at dqX3_findBest_p072 12 rfl
theorem dX3_findBest_66 : decode cX3_findBest 66 = .ok (.goto (-58), 3) := dz_at dqX3_findBest_p072 13 rfl
set_option maxRecDepth 20000 in
theorem dqX3_findBest_p073 : dz_rn 69 (cX3_findBest.data.toList.drop 69) [(0, 4), (0, 13), (3, 3), (0, 4), (0, 8), (0, 1), (0, 2), (3, 1), (0, 25)] = some [(69, .aload_n 0, 1), (70, .iconst (-1), 1), (71, .putfield 65, 3), (74, .aload_n 0, 1), (75, .iconst 0, 1), (76, .iload_n 1, 1), (77, .iload_n 2, 1), (78, .invokevirtual 69, 3), (81, .return_, 1)] := by decide +kernel
theorem dX3_findBest_69 : decode cX3_findBest 69 = .ok (.aload_n 0, 1) := dz_at dqX3_findBest_p073 0 rfl
theorem dX3_findBest_70 : decode cX3_findBest 70 = .ok (.iconst (-1), 1) := dz_at dqX3_findBest_p073 1 rfl
theorem dX3_findBest_71 : decode cX3_findBest 71 = .ok (.putfield 65, 3) := dz_at dqX3_findBest_p073 2 rfl
theorem dX3_findBest_74 : decode cX3_findBest 74 = .ok (.aload_n 0, 1) := dz_at dqX3_findBest_p073 3 rfl
theorem dX3_findBest_75 : decode cX3_findBest 75 = .ok (.iconst 0, 1) := dz_at dqX3_findBest_p073 4 rfl
theorem dX3_findBest_76 : decode cX3_findBest 76 = .ok (.iload_n 1, 1) := dz_at dqX3_findBest_p073 5 rfl
theorem dX3_findBest_77 : decode cX3_findBest 77 = .ok (.iload_n 2, 1) := dz_at dqX3_findBest_p073 6 rfl
theorem dX3_findBest_78 : decode cX3_findBest 78 = .ok (.invokevirtual 69, 3) := dz_at dqX3_findBest_p073 7 rfl
theorem dX3_findBest_81 : decode cX3_findBest 81 = .ok (.return_, 1) := dz_at dqX3_findBest_p073 8 rfl
set_option maxRecDepth 20000 in
theorem ggX3_prepare_X1_countCrowds : GoodIn wsX3_prepare wsX1_countCrowds := goodIn_r _ [8, 9, 10, 11, 12, 7, 13, 14, 15, 16, 17, 18, 19, 20, 21, 22, 23, 24, 25, 26, 27, 28, 29, 30, 31, 32, 33, 59, 60, 61, 62, 63, 64, 65, 66, 67, 68, 69, 70, 71, 72] rfl (by decide +kernel)
set_option maxRecDepth 20000 in
theorem gX3_prepare_X1_countCrowds : GoodIn wsX3_prepare (wsV RX3 73 RX1 yX1_countCrowds wsX1_countCrowds) := goodIn_app (goodIn_of _ (by decide +kernel)) ggX3_prepare_X1_countCrowds
set_option maxRecDepth 20000 in
theorem ggX3_prepare_X3_costOf : GoodIn wsX3_prepare wsX3_costOf := goodIn_r _ [38, 39, 1, 40, 41, 42, 43, 44, 45, 46, 47, 48, 7, 49, 14, 50, 51, 52, 53, 54, 55, 56, 57, 58, 73, 74, 59, 60, 61, 62, 63, 64, 65, 66, 67, 68, 69, 70, 71] rfl (by decide +kernel)
set_option maxRecDepth 20000 in
theorem gX3_prepare_X3_costOf : GoodIn wsX3_prepare (wsV RX3 76 RX3 yX3_costOf wsX3_costOf) := goodIn_app (goodIn_of _ (by decide +kernel)) ggX3_prepare_X3_costOf
set_option maxRecDepth 20000 in
theorem dqX3_prepare_p070 : dz_rn 0 (cX3_prepare.data.toList.drop 0) [(0, 4), (3, 0), (3, 1), (0, 8), (0, 19), (0, 1), (2, 0), (4, 4), (0, 4), (3, 0), (0, 1), (0, 4), (0, 1), (3, 1)] = some [(0, .aload_n 0, 1), (1, .getfield 30, 3), (4, .invokevirtual 73, 3), (7, .iconst 0, 1), (8, .istore_n 1, 1), (9, .iload_n 1, 1), (10, .bipush 8, 2), (12, .if_icmp .ge 27, 3), (15, .aload_n 0, 1), (16, .getfield 24, 3), (19, .iload_n 1, 1), (20, .aload_n 0, 1), (21, .iload_n 1, 1), (22, .invokevirtual 76, 3)] := by decide +kernel
theorem dX3_prepare_0 : decode cX3_prepare 0 = .ok (.aload_n 0, 1) := dz_at dqX3_prepare_p070 0 rfl
theorem dX3_prepare_1 : decode cX3_prepare 1 = .ok (.getfield 30, 3) := dz_at dqX3_prepare_p070 1 rfl
theorem dX3_prepare_4 : decode cX3_prepare 4 = .ok (.invokevirtual 73, 3) := dz_at dqX3_prepare_p070 2 rfl
theorem dX3_prepare_7 : decode cX3_prepare 7 = .ok (.iconst 0, 1) := dz_at dqX3_prepare_p070 3 rfl
theorem dX3_prepare_8 : decode cX3_prepare 8 = .ok (.istore_n 1, 1) := dz_at dqX3_prepare_p070 4 rfl
theorem dX3_prepare_9 : decode cX3_prepare 9 = .ok (.iload_n 1, 1) := dz_at dqX3_prepare_p070 5 rfl
theorem dX3_prepare_10 : decode cX3_prepare 10 = .ok (.bipush 8, 2) := dz_at dqX3_prepare_p070 6 rfl
theorem dX3_prepare_12 : decode cX3_prepare 12 = .ok (.if_icmp .ge 27, 3) := dz_at dqX3_prepare_p070 7 rfl
theorem dX3_prepare_15 : decode cX3_prepare 15 = .ok (.aload_n 0, 1) := dz_at dqX3_prepare_p070 8 rfl
theorem dX3_prepare_16 : decode cX3_prepare 16 = .ok (.getfield 24, 3) := dz_at dqX3_prepare_p070 9 rfl
theorem dX3_prepare_19 : decode cX3_prepare 19 = .ok (.iload_n 1, 1) := dz_at dqX3_prepare_p070 10 rfl
theorem dX3_prepare_20 : decode cX3_prepare 20 = .ok (.aload_n 0, 1) := dz_at dqX3_prepare_p070 11 rfl
theorem dX3_prepare_21 : decode cX3_prepare 21 = .ok (.iload_n 1, 1) := dz_at dqX3_prepare_p070 12 rfl
theorem dX3_prepare_22 : decode cX3_prepare 22 = .ok (.invokevirtual 76, 3) := dz_at dqX3_prepare_p070 13 rfl
set_option maxRecDepth 20000 in
theorem dqX3_prepare_p071 : dz_rn 25 (cX3_prepare.data.toList.drop 25) [(0, 22), (0, 4), (3, 0), (0, 1), (0, 8), (0, 22), (5, 0), (4, 0), (0, 25)] = some [(25, .iastore, 1), (26, .aload_n 0, 1), (27, .getfield 21, 3), (30, .iload_n 1, 1), (31, .iconst 0, 1), (32, .iastore, 1), (33, .iinc 1 1, 3), (36, .goto (-27), 3), (39, .return_, 1)] := by decide +kernel
theorem dX3_prepare_25 : decode cX3_prepare 25 = .ok (.iastore, 1) := dz_at dqX3_prepare_p071 0 rfl
theorem dX3_prepare_26 : decode cX3_prepare 26 = .ok (.aload_n 0, 1) := dz_at dqX3_prepare_p071 1 rfl
theorem dX3_prepare_27 : decode cX3_prepare 27 = .ok (.getfield 21, 3) := dz_at dqX3_prepare_p071 2 rfl
theorem dX3_prepare_30 : decode cX3_prepare 30 = .ok (.iload_n 1, 1) := dz_at dqX3_prepare_p071 3 rfl
theorem dX3_prepare_31 : decode cX3_prepare 31 = .ok (.iconst 0, 1) := dz_at dqX3_prepare_p071 4 rfl
theorem dX3_prepare_32 : decode cX3_prepare 32 = .ok (.iastore, 1) := dz_at dqX3_prepare_p071 5 rfl
theorem dX3_prepare_33 : decode cX3_prepare 33 = .ok (.iinc 1 1, 3) := dz_at dqX3_prepare_p071 6 rfl
theorem dX3_prepare_36 : decode cX3_prepare 36 = .ok (.goto (-27), 3) := dz_at dqX3_prepare_p071 7 rfl
theorem dX3_prepare_39 : decode cX3_prepare 39 = .ok (.return_, 1) := dz_at dqX3_prepare_p071 8 rfl
set_option maxRecDepth 20000 in
theorem dqX3_walkable_p070 : dz_rn 0 (cX3_walkable.data.toList.drop 0) [(0, 4), (3, 0), (0, 1), (0, 10), (0, 13), (4, 1), (0, 4), (3, 0), (0, 1), (0, 10), (0, 4), (3, 0), (0, 2), (0, 10)] = some [(0, .aload_n 0, 1), (1, .getfield 24, 3), (4, .iload_n 1, 1), (5, .iaload, 1), (6, .iconst (-1), 1), (7, .if_icmp .eq 22, 3), (10, .aload_n 0, 1), (11, .getfield 24, 3), (14, .iload_n 1, 1), (15, .iaload, 1), (16, .aload_n 0, 1), (17, .getfield 9, 3), (20, .iload_n 2, 1), (21, .iaload, 1)] := by decide +kernel
theorem dX3_walkable_0 : decode cX3_walkable 0 = .ok (.aload_n 0, 1) := dz_at dqX3_walkable_p070 0 rfl
theorem dX3_walkable_1 : decode cX3_walkable 1 = .ok (.getfield 24, 3) := dz_at dqX3_walkable_p070 1 rfl
theorem dX3_walkable_4 : decode cX3_walkable 4 = .ok (.iload_n 1, 1) := dz_at dqX3_walkable_p070 2 rfl
theorem dX3_walkable_5 : decode cX3_walkable 5 = .ok (.iaload, 1) := dz_at dqX3_walkable_p070 3 rfl
theorem dX3_walkable_6 : decode cX3_walkable 6 = .ok (.iconst (-1), 1) := dz_at dqX3_walkable_p070 4 rfl
theorem dX3_walkable_7 : decode cX3_walkable 7 = .ok (.if_icmp .eq 22, 3) := dz_at dqX3_walkable_p070 5 rfl
theorem dX3_walkable_10 : decode cX3_walkable 10 = .ok (.aload_n 0, 1) := dz_at dqX3_walkable_p070 6 rfl
theorem dX3_walkable_11 : decode cX3_walkable 11 = .ok (.getfield 24, 3) := dz_at dqX3_walkable_p070 7 rfl
theorem dX3_walkable_14 : decode cX3_walkable 14 = .ok (.iload_n 1, 1) := dz_at dqX3_walkable_p070 8 rfl
theorem dX3_walkable_15 : decode cX3_walkable 15 = .ok (.iaload, 1) := dz_at dqX3_walkable_p070 9 rfl
theorem dX3_walkable_16 : decode cX3_walkable 16 = .ok (.aload_n 0, 1) := dz_at dqX3_walkable_p070 10 rfl
theorem dX3_walkable_17 : decode cX3_walkable 17 = .ok (.getfield 9, 3) := dz_at dqX3_walkable_p070 11 rfl
theorem dX3_walkable_20 : decode cX3_walkable 20 = .ok (.iload_n 2, 1) := dz_at dqX3_walkable_p070 12 rfl
theorem dX3_walkable_21 : decode cX3_walkable 21 = .ok (.iaload, 1) := dz_at dqX3_walkable_p070 13 rfl
set_option maxRecDepth 20000 in
theorem dqX3_walkable_p071 : dz_rn 22 (cX3_walkable.data.toList.drop 22) [(4, 5), (0, 9), (4, 0), (0, 8), (0, 12)] = some [(22, .if_icmp .gt 7, 3), (25, .iconst 1, 1), (26, .goto 4, 3), (29, .iconst 0, 1), (30, .ireturn, 1)] := by decide +kernel
theorem dX3_walkable_22 : decode cX3_walkable 22 = .ok (.if_icmp .gt 7, 3) := dz_at dqX3_walkable_p071 0 rfl
theorem dX3_walkable_25 : decode cX3_walkable 25 = .ok (.iconst 1, 1) := dz_at dqX3_walkable_p071 1 rfl
theorem dX3_walkable_26 : decode cX3_walkable 26 = .ok (.goto 4, 3) := dz_at dqX3_walkable_p071 2 rfl
theorem dX3_walkable_29 : decode cX3_walkable 29 = .ok (.iconst 0, 1) := dz_at dqX3_walkable_p071 3 rfl
theorem dX3_walkable_30 : decode cX3_walkable 30 = .ok (.ireturn, 1) := dz_at dqX3_walkable_p071 4 rfl
set_option maxRecDepth 20000 in
theorem ggX3_strengthOfRoom_X1_strengthBehind : GoodIn wsX3_strengthOfRoom wsX1_strengthBehind := goodIn_r _ [6, 7, 8, 9, 10, 11, 5, 12, 13, 14, 15, 16, 17, 18, 19, 20, 21, 22, 32, 33, 34, 35, 36, 37, 38, 39, 40, 41, 42, 43, 44] rfl (by decide +kernel)
set_option maxRecDepth 20000 in
theorem gX3_strengthOfRoom_X1_strengthBehind : GoodIn wsX3_strengthOfRoom (wsV RX3 82 RX1 yX1_strengthBehind wsX1_strengthBehind) := goodIn_app (goodIn_of _ (by decide +kernel)) ggX3_strengthOfRoom_X1_strengthBehind
set_option maxRecDepth 20000 in
theorem dqX3_strengthOfRoom_p070 : dz_rn 0 (cX3_strengthOfRoom.data.toList.drop 0) [(0, 8), (1, 1), (0, 1), (2, 0), (0, 23), (1, 1), (1, 0), (1, 1), (1, 0), (1, 0), (2, 0), (0, 11), (4, 4), (0, 4)] = some [(0, .iconst 0, 1), (1, .istore 4, 2), (3, .iload_n 1, 1), (4, .bipush 6, 2), (6, .imul, 1), (7, .istore 5, 2), (9, .iload 5, 2), (11, .istore 6, 2), (13, .iload 6, 2), (15, .iload 5, 2), (17, .bipush 6, 2), (19, .iadd, 1), (20, .if_icmp .ge 39, 3), (23, .aload_n 0, 1)] := by decide +kernel
theorem dX3_strengthOfRoom_0 : decode cX3_strengthOfRoom 0 = .ok (.iconst 0, 1) := dz_at dqX3_strengthOfRoom_p070 0 rfl
theorem dX3_strengthOfRoom_1 : decode cX3_strengthOfRoom 1 = .ok (.istore 4, 2) := dz_at dqX3_strengthOfRoom_p070 1 rfl
theorem dX3_strengthOfRoom_3 : decode cX3_strengthOfRoom 3 = .ok (.iload_n 1, 1) := dz_at dqX3_strengthOfRoom_p070 2 rfl
theorem dX3_strengthOfRoom_4 : decode cX3_strengthOfRoom 4 = .ok (.bipush 6, 2) := dz_at dqX3_strengthOfRoom_p070 3 rfl
theorem dX3_strengthOfRoom_6 : decode cX3_strengthOfRoom 6 = .ok (.imul, 1) := dz_at dqX3_strengthOfRoom_p070 4 rfl
theorem dX3_strengthOfRoom_7 : decode cX3_strengthOfRoom 7 = .ok (.istore 5, 2) := dz_at dqX3_strengthOfRoom_p070 5 rfl
theorem dX3_strengthOfRoom_9 : decode cX3_strengthOfRoom 9 = .ok (.iload 5, 2) := dz_at dqX3_strengthOfRoom_p070 6 rfl
theorem dX3_strengthOfRoom_11 : decode cX3_strengthOfRoom 11 = .ok (.istore 6, 2) := dz_at dqX3_strengthOfRoom_p070 7 rfl
theorem dX3_strengthOfRoom_13 : decode cX3_strengthOfRoom 13 = .ok (.iload 6, 2) := dz_at dqX3_strengthOfRoom_p070 8 rfl
theorem dX3_strengthOfRoom_15 : decode cX3_strengthOfRoom 15 = .ok (.iload 5, 2) := dz_at dqX3_strengthOfRoom_p070 9 rfl
theorem dX3_strengthOfRoom_17 : decode cX3_strengthOfRoom 17 = .ok (.bipush 6, 2) := dz_at dqX3_strengthOfRoom_p070 10 rfl
theorem dX3_strengthOfRoom_19 : decode cX3_strengthOfRoom 19 = .ok (.iadd, 1) := dz_at dqX3_strengthOfRoom_p070 11 rfl
theorem dX3_strengthOfRoom_20 : decode cX3_strengthOfRoom 20 = .ok (.if_icmp .ge 39, 3) := dz_at dqX3_strengthOfRoom_p070 12 rfl
theorem dX3_strengthOfRoom_23 : decode cX3_strengthOfRoom 23 = .ok (.aload_n 0, 1) := dz_at dqX3_strengthOfRoom_p070 13 rfl
set_option maxRecDepth 20000 in
theorem dqX3_strengthOfRoom_p071 : dz_rn 24 (cX3_strengthOfRoom.data.toList.drop 24) [(3, 0), (3, 0), (1, 0), (0, 10), (0, 13), (4, 1), (1, 0), (0, 4), (3, 0), (1, 0), (0, 2), (0, 3), (3, 1), (0, 11)] = some [(24, .getfield 30, 3), (27, .getfield 79, 3), (30, .iload 6, 2), (32, .iaload, 1), (33, .iconst (-1), 1), (34, .if_icmp .eq 19, 3), (37, .iload 4, 2), (39, .aload_n 0, 1), (40, .getfield 30, 3), (43, .iload 6, 2), (45, .iload_n 2, 1), (46, .iload_n 3, 1), (47, .invokevirtual 82, 3), (50, .iadd, 1)] := by decide +kernel
theorem dX3_strengthOfRoom_24 : decode cX3_strengthOfRoom 24 = .ok (.getfield 30, 3) := dz_at dqX3_strengthOfRoom_p071 0 rfl
theorem dX3_strengthOfRoom_27 : decode cX3_strengthOfRoom 27 = .ok (.getfield 79, 3) := dz_at dqX3_strengthOfRoom_p071 1 rfl
theorem dX3_strengthOfRoom_30 : decode cX3_strengthOfRoom 30 = .ok (.iload 6, 2) := dz_at dqX3_strengthOfRoom_p071 2 rfl
theorem dX3_strengthOfRoom_32 : decode cX3_strengthOfRoom 32 = .ok (.iaload, 1) := dz_at dqX3_strengthOfRoom_p071 3 rfl
theorem dX3_strengthOfRoom_33 : decode cX3_strengthOfRoom 33 = .ok (.iconst (-1), 1) := dz_at dqX3_strengthOfRoom_p071 4 rfl
theorem dX3_strengthOfRoom_34 : decode cX3_strengthOfRoom 34 = .ok (.if_icmp .eq 19, 3) := dz_at dqX3_strengthOfRoom_p071 5 rfl
theorem dX3_strengthOfRoom_37 : decode cX3_strengthOfRoom 37 = .ok (.iload 4, 2) := dz_at dqX3_strengthOfRoom_p071 6 rfl
theorem dX3_strengthOfRoom_39 : decode cX3_strengthOfRoom 39 = .ok (.aload_n 0, 1) := dz_at dqX3_strengthOfRoom_p071 7 rfl
theorem dX3_strengthOfRoom_40 : decode cX3_strengthOfRoom 40 = .ok (.getfield 30, 3) := dz_at dqX3_strengthOfRoom_p071 8 rfl
theorem dX3_strengthOfRoom_43 : decode cX3_strengthOfRoom 43 = .ok (.iload 6, 2) := dz_at dqX3_strengthOfRoom_p071 9 rfl
theorem dX3_strengthOfRoom_45 : decode cX3_strengthOfRoom 45 = .ok (.iload_n 2, 1) := dz_at dqX3_strengthOfRoom_p071 10 rfl
theorem dX3_strengthOfRoom_46 : decode cX3_strengthOfRoom 46 = .ok (.iload_n 3, 1) := dz_at dqX3_strengthOfRoom_p071 11 rfl
theorem dX3_strengthOfRoom_47 : decode cX3_strengthOfRoom 47 = .ok (.invokevirtual 82, 3) := dz_at dqX3_strengthOfRoom_p071 12 rfl
theorem dX3_strengthOfRoom_50 : decode cX3_strengthOfRoom 50 = .ok (.iadd, 1) := dz_at dqX3_strengthOfRoom_p071 13 rfl
set_option maxRecDepth 20000 in
theorem dqX3_strengthOfRoom_p072 : dz_rn 51 (cX3_strengthOfRoom.data.toList.drop 51) [(1, 1), (5, 0), (4, 0), (1, 0), (0, 12)] = some [(51, .istore 4, 2), (53, .iinc 6 1, 3), (56, .goto (-43), 3), (59, .iload 4, 2), (61, .ireturn, 1)] := by decide +kernel
theorem dX3_strengthOfRoom_51 : decode cX3_strengthOfRoom 51 = .ok (.istore 4, 2) := dz_at dqX3_strengthOfRoom_p072 0 rfl
theorem dX3_strengthOfRoom_53 : decode cX3_strengthOfRoom 53 = .ok (.iinc 6 1, 3) := dz_at dqX3_strengthOfRoom_p072 1 rfl
theorem dX3_strengthOfRoom_56 : decode cX3_strengthOfRoom 56 = .ok (.goto (-43), 3) := dz_at dqX3_strengthOfRoom_p072 2 rfl
theorem dX3_strengthOfRoom_59 : decode cX3_strengthOfRoom 59 = .ok (.iload 4, 2) := dz_at dqX3_strengthOfRoom_p072 3 rfl
theorem dX3_strengthOfRoom_61 : decode cX3_strengthOfRoom 61 = .ok (.ireturn, 1) := dz_at dqX3_strengthOfRoom_p072 4 rfl
set_option maxRecDepth 20000 in
theorem ggX3_seek_X3_keepIfStronger : GoodIn wsX3_seek wsX3_keepIfStronger := goodIn_r _ [8, 9, 3, 10, 11, 12, 13, 14, 24, 25, 26, 27, 28, 29, 30, 31, 32] rfl (by decide +kernel)
set_option maxRecDepth 20000 in
theorem gX3_seek_X3_keepIfStronger : GoodIn wsX3_seek (wsV RX3 85 RX3 yX3_keepIfStronger wsX3_keepIfStronger) := goodIn_app (goodIn_of _ (by decide +kernel)) ggX3_seek_X3_keepIfStronger
set_option maxRecDepth 20000 in
theorem ggX3_seek_X3_walkable : GoodIn wsX3_seek wsX3_walkable := goodIn_r _ [18, 19, 20, 24, 25, 26, 27, 28, 29, 30, 31, 32] rfl (by decide +kernel)
set_option maxRecDepth 20000 in
theorem gX3_seek_X3_walkable : GoodIn wsX3_seek (wsV RX3 57 RX3 yX3_walkable wsX3_walkable) := goodIn_app (goodIn_of _ (by decide +kernel)) ggX3_seek_X3_walkable
set_option maxRecDepth 20000 in
theorem ggX3_seek_X3_seek : GoodIn wsX3_seek wsX3_seek := goodIn_r _ [0, 1, 2, 3, 4, 5, 6, 7, 8, 9, 10, 11, 12, 13, 14, 15, 16, 17, 18, 19, 20, 21, 22, 23, 24, 25, 26, 27, 28, 29, 30, 31, 32] rfl (by decide +kernel)
set_option maxRecDepth 20000 in
theorem gX3_seek_X3_seek : GoodIn wsX3_seek (wsV RX3 69 RX3 yX3_seek wsX3_seek) := goodIn_app (goodIn_of _ (by decide +kernel)) ggX3_seek_X3_seek
set_option maxRecDepth 20000 in
theorem dqX3_seek_p070 : dz_rn 0 (cX3_seek.data.toList.drop 0) [(0, 1), (0, 2), (4, 4), (0, 1), (0, 16), (4, 3), (0, 4), (0, 3), (3, 1), (0, 25), (0, 8), (1, 1), (1, 0), (2, 0)] = some [(0, .iload_n 1, 1), (1, .iload_n 2, 1), (2, .if_icmp .ge 8, 3), (5, .iload_n 1, 1), (6, .iconst 4, 1), (7, .if_icmp .lt 9, 3), (10, .aload_n 0, 1), (11, .iload_n 3, 1), (12, .invokevirtual 85, 3), (15, .return_, 1), (16, .iconst 0, 1), (17, .istore 4, 2), (19, .iload 4, 2), (21, .bipush 8, 2)] := by decide +kernel
theorem dX3_seek_0 : decode cX3_seek 0 = .ok (.iload_n 1, 1) := dz_at dqX3_seek_p070 0 rfl
theorem dX3_seek_1 : decode cX3_seek 1 = .ok (.iload_n 2, 1) := dz_at dqX3_seek_p070 1 rfl
theorem dX3_seek_2 : decode cX3_seek 2 = .ok (.if_icmp .ge 8, 3) := dz_at dqX3_seek_p070 2 rfl
theorem dX3_seek_5 : decode cX3_seek 5 = .ok (.iload_n 1, 1) := dz_at dqX3_seek_p070 3 rfl
theorem dX3_seek_6 : decode cX3_seek 6 = .ok (.iconst 4, 1) := dz_at dqX3_seek_p070 4 rfl
theorem dX3_seek_7 : decode cX3_seek 7 = .ok (.if_icmp .lt 9, 3) := dz_at dqX3_seek_p070 5 rfl
theorem dX3_seek_10 : decode cX3_seek 10 = .ok (.aload_n 0, 1) := dz_at dqX3_seek_p070 6 rfl
theorem dX3_seek_11 : decode cX3_seek 11 = .ok (.iload_n 3, 1) := dz_at dqX3_seek_p070 7 rfl
theorem dX3_seek_12 : decode cX3_seek 12 = .ok (.invokevirtual 85, 3) := dz_at dqX3_seek_p070 8 rfl
theorem dX3_seek_15 : decode cX3_seek 15 = .ok (.return_, 1) := dz_at dqX3_seek_p070 9 rfl
theorem dX3_seek_16 : decode cX3_seek 16 = .ok (.iconst 0, 1) := dz_at dqX3_seek_p070 10 rfl
theorem dX3_seek_17 : decode cX3_seek 17 = .ok (.istore 4, 2) := dz_at dqX3_seek_p070 11 rfl
theorem dX3_seek_19 : decode cX3_seek 19 = .ok (.iload 4, 2) := dz_at dqX3_seek_p070 12 rfl
theorem dX3_seek_21 : decode cX3_seek 21 = .ok (.bipush 8, 2) := dz_at dqX3_seek_p070 13 rfl
set_option maxRecDepth 20000 in
theorem dqX3_seek_p071 : dz_rn 23 (cX3_seek.data.toList.drop 23) [(4, 4), (0, 4), (1, 0), (0, 1), (3, 1), (4, 7), (0, 4), (3, 0), (1, 0), (0, 10), (1, 1), (1, 0), (0, 9), (0, 1)] = some [(23, .if_icmp .ge 103, 3), (26, .aload_n 0, 1), (27, .iload 4, 2), (29, .iload_n 1, 1), (30, .invokevirtual 57, 3), (33, .ifCond .eq 87, 3), (36, .aload_n 0, 1), (37, .getfield 21, 3), (40, .iload 4, 2), (42, .iaload, 1), (43, .istore 5, 2), (45, .iload 5, 2), (47, .iconst 1, 1), (48, .iload_n 1, 1)] := by decide +kernel
theorem dX3_seek_23 : decode cX3_seek 23 = .ok (.if_icmp .ge 103, 3) := dz_at dqX3_seek_p071 0 rfl
theorem dX3_seek_26 : decode cX3_seek 26 = .ok (.aload_n 0, 1) := dz_at dqX3_seek_p071 1 rfl
theorem dX3_seek_27 : decode cX3_seek 27 = .ok (.iload 4, 2) := dz_at dqX3_seek_p071 2 rfl
theorem dX3_seek_29 : decode cX3_seek 29 = .ok (.iload_n 1, 1) := dz_at dqX3_seek_p071 3 rfl
theorem dX3_seek_30 : decode cX3_seek 30 = .ok (.invokevirtual 57, 3) := dz_at dqX3_seek_p071 4 rfl
theorem dX3_seek_33 : decode cX3_seek 33 = .ok (.ifCond .eq 87, 3) := dz_at dqX3_seek_p071 5 rfl
theorem dX3_seek_36 : decode cX3_seek 36 = .ok (.aload_n 0, 1) := dz_at dqX3_seek_p071 6 rfl
theorem dX3_seek_37 : decode cX3_seek 37 = .ok (.getfield 21, 3) := dz_at dqX3_seek_p071 7 rfl
theorem dX3_seek_40 : decode cX3_seek 40 = .ok (.iload 4, 2) := dz_at dqX3_seek_p071 8 rfl
theorem dX3_seek_42 : decode cX3_seek 42 = .ok (.iaload, 1) := dz_at dqX3_seek_p071 9 rfl
theorem dX3_seek_43 : decode cX3_seek 43 = .ok (.istore 5, 2) := dz_at dqX3_seek_p071 10 rfl
theorem dX3_seek_45 : decode cX3_seek 45 = .ok (.iload 5, 2) := dz_at dqX3_seek_p071 11 rfl
theorem dX3_seek_47 : decode cX3_seek 47 = .ok (.iconst 1, 1) := dz_at dqX3_seek_p071 12 rfl
theorem dX3_seek_48 : decode cX3_seek 48 = .ok (.iload_n 1, 1) := dz_at dqX3_seek_p071 13 rfl
set_option maxRecDepth 20000 in
theorem dqX3_seek_p072 : dz_rn 49 (cX3_seek.data.toList.drop 49) [(0, 31), (0, 39), (1, 1), (0, 4), (3, 0), (1, 0), (2, 0), (0, 23), (1, 0), (0, 11), (0, 10), (0, 4), (3, 0), (1, 0)] = some [(49, .ishl, 1), (50, .ior, 1), (51, .istore 6, 2), (53, .aload_n 0, 1), (54, .getfield 27, 3), (57, .iload 4, 2), (59, .bipush 16, 2), (61, .imul, 1), (62, .iload 6, 2), (64, .iadd, 1), (65, .iaload, 1), (66, .aload_n 0, 1), (67, .getfield 27, 3), (70, .iload 4, 2)] := by decide +kernel
theorem dX3_seek_49 : decode cX3_seek 49 = .ok (.ishl, 1) := dz_at dqX3_seek_p072 0 rfl
theorem dX3_seek_50 : decode cX3_seek 50 = .ok (.ior, 1) := dz_at dqX3_seek_p072 1 rfl
theorem dX3_seek_51 : decode cX3_seek 51 = .ok (.istore 6, 2) := dz_at dqX3_seek_p072 2 rfl
theorem dX3_seek_53 : decode cX3_seek 53 = .ok (.aload_n 0, 1) := dz_at dqX3_seek_p072 3 rfl
theorem dX3_seek_54 : decode cX3_seek 54 = .ok (.getfield 27, 3) := dz_at dqX3_seek_p072 4 rfl
theorem dX3_seek_57 : decode cX3_seek 57 = .ok (.iload 4, 2) := dz_at dqX3_seek_p072 5 rfl
theorem dX3_seek_59 : decode cX3_seek 59 = .ok (.bipush 16, 2) := dz_at dqX3_seek_p072 6 rfl
theorem dX3_seek_61 : decode cX3_seek 61 = .ok (.imul, 1) := dz_at dqX3_seek_p072 7 rfl
theorem dX3_seek_62 : decode cX3_seek 62 = .ok (.iload 6, 2) := dz_at dqX3_seek_p072 8 rfl
theorem dX3_seek_64 : decode cX3_seek 64 = .ok (.iadd, 1) := dz_at dqX3_seek_p072 9 rfl
theorem dX3_seek_65 : decode cX3_seek 65 = .ok (.iaload, 1) := dz_at dqX3_seek_p072 10 rfl
theorem dX3_seek_66 : decode cX3_seek 66 = .ok (.aload_n 0, 1) := dz_at dqX3_seek_p072 11 rfl
theorem dX3_seek_67 : decode cX3_seek 67 = .ok (.getfield 27, 3) := dz_at dqX3_seek_p072 12 rfl
theorem dX3_seek_70 : decode cX3_seek 70 = .ok (.iload 4, 2) := dz_at dqX3_seek_p072 13 rfl
set_option maxRecDepth 20000 in
theorem dqX3_seek_p073 : dz_rn 72 (cX3_seek.data.toList.drop 72) [(2, 0), (0, 23), (1, 0), (0, 11), (0, 10), (0, 26), (1, 1), (0, 4), (3, 0), (0, 1), (1, 0), (0, 22), (0, 4), (3, 0)] = some [(72, .bipush 16, 2), (74, .imul, 1), (75, .iload 5, 2), (77, .iadd, 1), (78, .iaload, 1), (79, .isub, 1), (80, .istore 7, 2), (82, .aload_n 0, 1), (83, .getfield 15, 3), (86, .iload_n 1, 1), (87, .iload 4, 2), (89, .iastore, 1), (90, .aload_n 0, 1), (91, .getfield 21, 3)] := by decide +kernel
theorem dX3_seek_72 : decode cX3_seek 72 = .ok (.bipush 16, 2) := dz_at dqX3_seek_p073 0 rfl
theorem dX3_seek_74 : decode cX3_seek 74 = .ok (.imul, 1) := dz_at dqX3_seek_p073 1 rfl
theorem dX3_seek_75 : decode cX3_seek 75 = .ok (.iload 5, 2) := dz_at dqX3_seek_p073 2 rfl
theorem dX3_seek_77 : decode cX3_seek 77 = .ok (.iadd, 1) := dz_at dqX3_seek_p073 3 rfl
theorem dX3_seek_78 : decode cX3_seek 78 = .ok (.iaload, 1) := dz_at dqX3_seek_p073 4 rfl
theorem dX3_seek_79 : decode cX3_seek 79 = .ok (.isub, 1) := dz_at dqX3_seek_p073 5 rfl
theorem dX3_seek_80 : decode cX3_seek 80 = .ok (.istore 7, 2) := dz_at dqX3_seek_p073 6 rfl
theorem dX3_seek_82 : decode cX3_seek 82 = .ok (.aload_n 0, 1) := dz_at dqX3_seek_p073 7 rfl
theorem dX3_seek_83 : decode cX3_seek 83 = .ok (.getfield 15, 3) := dz_at dqX3_seek_p073 8 rfl
theorem dX3_seek_86 : decode cX3_seek 86 = .ok (.iload_n 1, 1) := dz_at dqX3_seek_p073 9 rfl
theorem dX3_seek_87 : decode cX3_seek 87 = .ok (.iload 4, 2) := dz_at dqX3_seek_p073 10 rfl
theorem dX3_seek_89 : decode cX3_seek 89 = .ok (.iastore, 1) := dz_at dqX3_seek_p073 11 rfl
theorem dX3_seek_90 : decode cX3_seek 90 = .ok (.aload_n 0, 1) := dz_at dqX3_seek_p073 12 rfl
theorem dX3_seek_91 : decode cX3_seek 91 = .ok (.getfield 21, 3) := dz_at dqX3_seek_p073 13 rfl
set_option maxRecDepth 20000 in
theorem dqX3_seek_p074 : dz_rn 94 (cX3_seek.data.toList.drop 94) [(1, 0), (1, 0), (0, 22), (0, 4), (0, 1), (0, 9), (0, 11), (0, 2), (0, 3), (1, 0), (0, 11), (3, 1), (0, 4), (3, 0)] = some [(94, .iload 4, 2), (96, .iload 6, 2), (98, .iastore, 1), (99, .aload_n 0, 1), (100, .iload_n 1, 1), (101, .iconst 1, 1), (102, .iadd, 1), (103, .iload_n 2, 1), (104, .iload_n 3, 1), (105, .iload 7, 2), (107, .iadd, 1), (108, .invokevirtual 69, 3), (111, .aload_n 0, 1), (112, .getfield 21, 3)] := by decide +kernel
theorem dX3_seek_94 : decode cX3_seek 94 = .ok (.iload 4, 2) := dz_at dqX3_seek_p074 0 rfl
theorem dX3_seek_96 : decode cX3_seek 96 = .ok (.iload 6, 2) := dz_at dqX3_seek_p074 1 rfl
theorem dX3_seek_98 : decode cX3_seek 98 = .ok (.iastore, 1) := dz_at dqX3_seek_p074 2 rfl
theorem dX3_seek_99 : decode cX3_seek 99 = .ok (.aload_n 0, 1) := dz_at dqX3_seek_p074 3 rfl
theorem dX3_seek_100 : decode cX3_seek 100 = .ok (.iload_n 1, 1) := dz_at dqX3_seek_p074 4 rfl
theorem dX3_seek_101 : decode cX3_seek 101 = .ok (.iconst 1, 1) := dz_at dqX3_seek_p074 5 rfl
theorem dX3_seek_102 : decode cX3_seek 102 = .ok (.iadd, 1) := dz_at dqX3_seek_p074 6 rfl
theorem dX3_seek_103 : decode cX3_seek 103 = .ok (.iload_n 2, 1) := dz_at dqX3_seek_p074 7 rfl
theorem dX3_seek_104 : decode cX3_seek 104 = .ok (.iload_n 3, 1) := dz_at dqX3_seek_p074 8 rfl
theorem dX3_seek_105 : decode cX3_seek 105 = .ok (.iload 7, 2) := dz_at dqX3_seek_p074 9 rfl
theorem dX3_seek_107 : decode cX3_seek 107 = .ok (.iadd, 1) := dz_at dqX3_seek_p074 10 rfl
theorem dX3_seek_108 : decode cX3_seek 108 = .ok (.invokevirtual 69, 3) := dz_at dqX3_seek_p074 11 rfl
theorem dX3_seek_111 : decode cX3_seek 111 = .ok (.aload_n 0, 1) := dz_at dqX3_seek_p074 12 rfl
theorem dX3_seek_112 : decode cX3_seek 112 = .ok (.getfield 21, 3) := dz_at dqX3_seek_p074 13 rfl
set_option maxRecDepth 20000 in
theorem dqX3_seek_p075 : dz_rn 115 (cX3_seek.data.toList.drop 115) [(1, 0), (1, 0), (0, 22), (5, 0), (4, 0), (0, 4), (3, 0), (0, 1), (2, 0), (0, 22), (0, 4), (0, 1), (0, 9), (0, 11)] = some [(115, .iload 4, 2), (117, .iload 5, 2), (119, .iastore, 1), (120, .iinc 4 1, 3), (123, .goto (-104), 3), (126, .aload_n 0, 1), (127, .getfield 15, 3), (130, .iload_n 1, 1), (131, .bipush 8, 2), (133, .iastore, 1), (134, .aload_n 0, 1), (135, .iload_n 1, 1), (136, .iconst 1, 1), (137, .iadd, 1)] := by decide +kernel
theorem dX3_seek_115 : decode cX3_seek 115 = .ok (.iload 4, 2) := dz_at dqX3_seek_p075 0 rfl
theorem dX3_seek_117 : decode cX3_seek 117 = .ok (.iload 5, 2) := dz_at dqX3_seek_p075 1 rfl
theorem dX3_seek_119 : decode cX3_seek 119 = .ok (.iastore, 1) := dz_at dqX3_seek_p075 2 rfl
theorem dX3_seek_120 : decode cX3_seek 120 = .ok (.iinc 4 1, 3) := dz_at dqX3_seek_p075 3 rfl
theorem dX3_seek_123 : decode cX3_seek 123 = .ok (.goto (-104), 3) := dz_at dqX3_seek_p075 4 rfl
theorem dX3_seek_126 : decode cX3_seek 126 = .ok (.aload_n 0, 1) := dz_at dqX3_seek_p075 5 rfl
theorem dX3_seek_127 : decode cX3_seek 127 = .ok (.getfield 15, 3) := dz_at dqX3_seek_p075 6 rfl
theorem dX3_seek_130 : decode cX3_seek 130 = .ok (.iload_n 1, 1) := dz_at dqX3_seek_p075 7 rfl
theorem dX3_seek_131 : decode cX3_seek 131 = .ok (.bipush 8, 2) := dz_at dqX3_seek_p075 8 rfl
theorem dX3_seek_133 : decode cX3_seek 133 = .ok (.iastore, 1) := dz_at dqX3_seek_p075 9 rfl
theorem dX3_seek_134 : decode cX3_seek 134 = .ok (.aload_n 0, 1) := dz_at dqX3_seek_p075 10 rfl
theorem dX3_seek_135 : decode cX3_seek 135 = .ok (.iload_n 1, 1) := dz_at dqX3_seek_p075 11 rfl
theorem dX3_seek_136 : decode cX3_seek 136 = .ok (.iconst 1, 1) := dz_at dqX3_seek_p075 12 rfl
theorem dX3_seek_137 : decode cX3_seek 137 = .ok (.iadd, 1) := dz_at dqX3_seek_p075 13 rfl
set_option maxRecDepth 20000 in
theorem dqX3_seek_p076 : dz_rn 138 (cX3_seek.data.toList.drop 138) [(0, 2), (0, 3), (3, 1), (0, 25)] = some [(138, .iload_n 2, 1), (139, .iload_n 3, 1), (140, .invokevirtual 69, 3), (143, .return_, 1)] := by decide +kernel
theorem dX3_seek_138 : decode cX3_seek 138 = .ok (.iload_n 2, 1) := dz_at dqX3_seek_p076 0 rfl
theorem dX3_seek_139 : decode cX3_seek 139 = .ok (.iload_n 3, 1) := dz_at dqX3_seek_p076 1 rfl
theorem dX3_seek_140 : decode cX3_seek 140 = .ok (.invokevirtual 69, 3) := dz_at dqX3_seek_p076 2 rfl
theorem dX3_seek_143 : decode cX3_seek 143 = .ok (.return_, 1) := dz_at dqX3_seek_p076 3 rfl
set_option maxRecDepth 20000 in
theorem dqX3_keepIfStronger_p070 : dz_rn 0 (cX3_keepIfStronger.data.toList.drop 0) [(0, 1), (0, 4), (3, 0), (4, 6), (0, 4), (0, 1), (3, 3), (0, 4), (3, 0), (0, 8), (0, 4), (3, 0), (0, 8), (0, 16)] = some [(0, .iload_n 1, 1), (1, .aload_n 0, 1), (2, .getfield 65, 3), (5, .if_icmp .le 22, 3), (8, .aload_n 0, 1), (9, .iload_n 1, 1), (10, .putfield 65, 3), (13, .aload_n 0, 1), (14, .getfield 15, 3), (17, .iconst 0, 1), (18, .aload_n 0, 1), (19, .getfield 18, 3), (22, .iconst 0, 1), (23, .iconst 4, 1)] := by decide +kernel
theorem dX3_keepIfStronger_0 : decode cX3_keepIfStronger 0 = .ok (.iload_n 1, 1) := dz_at dqX3_keepIfStronger_p070 0 rfl
theorem dX3_keepIfStronger_1 : decode cX3_keepIfStronger 1 = .ok (.aload_n 0, 1) := dz_at dqX3_keepIfStronger_p070 1 rfl
theorem dX3_keepIfStronger_2 : decode cX3_keepIfStronger 2 = .ok (.getfield 65, 3) := dz_at dqX3_keepIfStronger_p070 2 rfl
theorem dX3_keepIfStronger_5 : decode cX3_keepIfStronger 5 = .ok (.if_icmp .le 22, 3) := dz_at dqX3_keepIfStronger_p070 3 rfl
theorem dX3_keepIfStronger_8 : decode cX3_keepIfStronger 8 = .ok (.aload_n 0, 1) := dz_at dqX3_keepIfStronger_p070 4 rfl
theorem dX3_keepIfStronger_9 : decode cX3_keepIfStronger 9 = .ok (.iload_n 1, 1) := dz_at dqX3_keepIfStronger_p070 5 rfl
theorem dX3_keepIfStronger_10 : decode cX3_keepIfStronger 10 = .ok (.putfield 65, 3) := dz_at dqX3_keepIfStronger_p070 6 rfl
theorem dX3_keepIfStronger_13 : decode cX3_keepIfStronger 13 = .ok (.aload_n 0, 1) := dz_at dqX3_keepIfStronger_p070 7 rfl
theorem dX3_keepIfStronger_14 : decode cX3_keepIfStronger 14 = .ok (.getfield 15, 3) := dz_at dqX3_keepIfStronger_p070 8 rfl
theorem dX3_keepIfStronger_17 : decode cX3_keepIfStronger 17 = .ok (.iconst 0, 1) := dz_at dqX3_keepIfStronger_p070 9 rfl
theorem dX3_keepIfStronger_18 : decode cX3_keepIfStronger 18 = .ok (.aload_n 0, 1) := dz_at dqX3_keepIfStronger_p070 10 rfl
theorem dX3_keepIfStronger_19 : decode cX3_keepIfStronger 19 = .ok (.getfield 18, 3) := dz_at dqX3_keepIfStronger_p070 11 rfl
theorem dX3_keepIfStronger_22 : decode cX3_keepIfStronger 22 = .ok (.iconst 0, 1) := dz_at dqX3_keepIfStronger_p070 12 rfl
theorem dX3_keepIfStronger_23 : decode cX3_keepIfStronger 23 = .ok (.iconst 4, 1) := dz_at dqX3_keepIfStronger_p070 13 rfl
set_option maxRecDepth 20000 in
theorem dqX3_keepIfStronger_p071 : dz_rn 24 (cX3_keepIfStronger.data.toList.drop 24) [(3, 2), (0, 25)] = some [(24, .invokestatic 89, 3), (27, .return_, 1)] := by decide +kernel
theorem dX3_keepIfStronger_24 : decode cX3_keepIfStronger 24 = .ok (.invokestatic 89, 3) := dz_at dqX3_keepIfStronger_p071 0 rfl
theorem dX3_keepIfStronger_27 : decode cX3_keepIfStronger 27 = .ok (.return_, 1) := dz_at dqX3_keepIfStronger_p071 1 rfl
end
section
set_option maxRecDepth 20000 in
theorem dqX6_init_p080 : dz_rn 0 (cX6_init.data.toList.drop 0) [(0, 4), (3, 5), (0, 4), (2, 0)] = some [(0, .aload_n 0, 1), (1, .invokespecial 3, 3), (4, .aload_n 0, 1), (5, .bipush 8, 2)] := by decide +kernel
theorem dX6_init_0 : decode cX6_init 0 = .ok (.aload_n 0, 1) := dz_at dqX6_init_p080 0 rfl
theorem dX6_init_1 : decode cX6_init 1 = .ok (.invokespecial 3, 3) := dz_at dqX6_init_p080 1 rfl
theorem dX6_init_4 : decode cX6_init 4 = .ok (.aload_n 0, 1) := dz_at dqX6_init_p080 2 rfl
theorem dX6_init_5 : decode cX6_init 5 = .ok (.bipush 8, 2) := dz_at dqX6_init_p080 3 rfl
theorem dX6_init_7 : decode cX6_init 7 = .ok (.newarray .int, 2) := by decide +kernel
set_option maxRecDepth 20000 in
theorem dqX6_init_p081 : dz_rn 9 (cX6_init.data.toList.drop 9) [(3, 3), (0, 4), (2, 0)] = some [(9, .putfield 9, 3), (12, .aload_n 0, 1), (13, .bipush 8, 2)] := by decide +kernel
theorem dX6_init_9 : decode cX6_init 9 = .ok (.putfield 9, 3) := dz_at dqX6_init_p081 0 rfl
theorem dX6_init_12 : decode cX6_init 12 = .ok (.aload_n 0, 1) := dz_at dqX6_init_p081 1 rfl
theorem dX6_init_13 : decode cX6_init 13 = .ok (.bipush 8, 2) := dz_at dqX6_init_p081 2 rfl
theorem dX6_init_15 : decode cX6_init 15 = .ok (.newarray .int, 2) := by decide +kernel
set_option maxRecDepth 20000 in
theorem dqX6_init_p082 : dz_rn 17 (cX6_init.data.toList.drop 17) [(3, 3), (0, 4), (2, 0)] = some [(17, .putfield 15, 3), (20, .aload_n 0, 1), (21, .bipush 64, 2)] := by decide +kernel
theorem dX6_init_17 : decode cX6_init 17 = .ok (.putfield 15, 3) := dz_at dqX6_init_p082 0 rfl
theorem dX6_init_20 : decode cX6_init 20 = .ok (.aload_n 0, 1) := dz_at dqX6_init_p082 1 rfl
theorem dX6_init_21 : decode cX6_init 21 = .ok (.bipush 64, 2) := dz_at dqX6_init_p082 2 rfl
theorem dX6_init_23 : decode cX6_init 23 = .ok (.newarray .int, 2) := by decide +kernel
set_option maxRecDepth 20000 in
theorem dqX6_init_p083 : dz_rn 25 (cX6_init.data.toList.drop 25) [(3, 3), (0, 4), (4, 13)] = some [(25, .putfield 18, 3), (28, .aload_n 0, 1), (29, .sipush 2048, 3)] := by decide +kernel
theorem dX6_init_25 : decode cX6_init 25 = .ok (.putfield 18, 3) := dz_at dqX6_init_p083 0 rfl
theorem dX6_init_28 : decode cX6_init 28 = .ok (.aload_n 0, 1) := dz_at dqX6_init_p083 1 rfl
theorem dX6_init_29 : decode cX6_init 29 = .ok (.sipush 2048, 3) := dz_at dqX6_init_p083 2 rfl
theorem dX6_init_32 : decode cX6_init 32 = .ok (.newarray .int, 2) := by decide +kernel
set_option maxRecDepth 20000 in
theorem dqX6_init_p084 : dz_rn 34 (cX6_init.data.toList.drop 34) [(3, 3), (0, 4), (0, 5), (3, 3), (0, 25)] = some [(34, .putfield 21, 3), (37, .aload_n 0, 1), (38, .aload_n 1, 1), (39, .putfield 24, 3), (42, .return_, 1)] := by decide +kernel
theorem dX6_init_34 : decode cX6_init 34 = .ok (.putfield 21, 3) := dz_at dqX6_init_p084 0 rfl
theorem dX6_init_37 : decode cX6_init 37 = .ok (.aload_n 0, 1) := dz_at dqX6_init_p084 1 rfl
theorem dX6_init_38 : decode cX6_init 38 = .ok (.aload_n 1, 1) := dz_at dqX6_init_p084 2 rfl
theorem dX6_init_39 : decode cX6_init 39 = .ok (.putfield 24, 3) := dz_at dqX6_init_p084 3 rfl
theorem dX6_init_42 : decode cX6_init 42 = .ok (.return_, 1) := dz_at dqX6_init_p084 4 rfl
set_option maxRecDepth 20000 in
theorem ggX6_layOut_X6_sort : GoodIn wsX6_layOut wsX6_sort := goodIn_r _ [5, 6, 48, 49, 50, 51, 52] rfl (by decide +kernel)
set_option maxRecDepth 20000 in
theorem gX6_layOut_X6_sort : GoodIn wsX6_layOut (wsV RX6 28 RX6 yX6_sort wsX6_sort) := goodIn_app (goodIn_of _ (by decide +kernel)) ggX6_layOut_X6_sort
set_option maxRecDepth 20000 in
theorem ggX6_layOut_X6_reckonShared : GoodIn wsX6_layOut wsX6_reckonShared := goodIn_r _ [10, 11, 12, 6, 13, 14, 15, 16, 17, 18, 19, 20, 21, 22, 23, 24, 25, 48, 49, 50, 51, 52, 53] rfl (by decide +kernel)
set_option maxRecDepth 20000 in
theorem gX6_layOut_X6_reckonShared : GoodIn wsX6_layOut (wsV RX6 32 RX6 yX6_reckonShared wsX6_reckonShared) := goodIn_app (goodIn_of _ (by decide +kernel)) ggX6_layOut_X6_reckonShared
set_option maxRecDepth 20000 in
theorem ggX6_layOut_X6_reckonToCome : GoodIn wsX6_layOut wsX6_reckonToCome := goodIn_r _ [29, 30, 31, 32, 33, 4, 34, 35, 36, 37, 38, 11, 39, 40, 41, 42, 48, 49, 50, 51, 52] rfl (by decide +kernel)
set_option maxRecDepth 20000 in
theorem gX6_layOut_X6_reckonToCome : GoodIn wsX6_layOut (wsV RX6 36 RX6 yX6_reckonToCome wsX6_reckonToCome) := goodIn_app (goodIn_of _ (by decide +kernel)) ggX6_layOut_X6_reckonToCome
set_option maxRecDepth 20000 in
theorem ggX6_layOut_X6_toComeAt : GoodIn wsX6_layOut wsX6_toComeAt := goodIn_r _ [42, 30, 48, 49, 50, 51, 52] rfl (by decide +kernel)
set_option maxRecDepth 20000 in
theorem gX6_layOut_X6_toComeAt : GoodIn wsX6_layOut (wsV RX6 39 RX6 yX6_toComeAt wsX6_toComeAt) := goodIn_app (goodIn_of _ (by decide +kernel)) ggX6_layOut_X6_toComeAt
set_option maxRecDepth 20000 in
theorem ggX6_layOut_X6_follow : GoodIn wsX6_layOut wsX6_follow := goodIn_r _ [46, 47, 6, 31, 32, 33, 4, 34, 35, 36, 37, 38, 11, 39, 40, 41, 42, 30, 48, 49, 50, 51, 52] rfl (by decide +kernel)
set_option maxRecDepth 20000 in
theorem gX6_layOut_X6_follow : GoodIn wsX6_layOut (wsV RX6 43 RX6 yX6_follow wsX6_follow) := goodIn_app (goodIn_of _ (by decide +kernel)) ggX6_layOut_X6_follow
set_option maxRecDepth 20000 in
theorem dqX6_layOut_p080 : dz_rn 0 (cX6_layOut.data.toList.drop 0) [(0, 4), (0, 5), (0, 2), (3, 1), (0, 4), (0, 2), (3, 1), (0, 4), (0, 2), (3, 1), (0, 8), (0, 21), (0, 9), (1, 1)] = some [(0, .aload_n 0, 1), (1, .aload_n 1, 1), (2, .iload_n 2, 1), (3, .invokevirtual 28, 3), (6, .aload_n 0, 1), (7, .iload_n 2, 1), (8, .invokevirtual 32, 3), (11, .aload_n 0, 1), (12, .iload_n 2, 1), (13, .invokevirtual 36, 3), (16, .iconst 0, 1), (17, .istore_n 3, 1), (18, .iconst 1, 1), (19, .istore 4, 2)] := by decide +kernel
theorem dX6_layOut_0 : decode cX6_layOut 0 = .ok (.aload_n 0, 1) := dz_at dqX6_layOut_p080 0 rfl
theorem dX6_layOut_1 : decode cX6_layOut 1 = .ok (.aload_n 1, 1) := dz_at dqX6_layOut_p080 1 rfl
theorem dX6_layOut_2 : decode cX6_layOut 2 = .ok (.iload_n 2, 1) := dz_at dqX6_layOut_p080 2 rfl
theorem dX6_layOut_3 : decode cX6_layOut 3 = .ok (.invokevirtual 28, 3) := dz_at dqX6_layOut_p080 3 rfl
theorem dX6_layOut_6 : decode cX6_layOut 6 = .ok (.aload_n 0, 1) := dz_at dqX6_layOut_p080 4 rfl
theorem dX6_layOut_7 : decode cX6_layOut 7 = .ok (.iload_n 2, 1) := dz_at dqX6_layOut_p080 5 rfl
theorem dX6_layOut_8 : decode cX6_layOut 8 = .ok (.invokevirtual 32, 3) := dz_at dqX6_layOut_p080 6 rfl
theorem dX6_layOut_11 : decode cX6_layOut 11 = .ok (.aload_n 0, 1) := dz_at dqX6_layOut_p080 7 rfl
theorem dX6_layOut_12 : decode cX6_layOut 12 = .ok (.iload_n 2, 1) := dz_at dqX6_layOut_p080 8 rfl
theorem dX6_layOut_13 : decode cX6_layOut 13 = .ok (.invokevirtual 36, 3) := dz_at dqX6_layOut_p080 9 rfl
theorem dX6_layOut_16 : decode cX6_layOut 16 = .ok (.iconst 0, 1) := dz_at dqX6_layOut_p080 10 rfl
theorem dX6_layOut_17 : decode cX6_layOut 17 = .ok (.istore_n 3, 1) := dz_at dqX6_layOut_p080 11 rfl
theorem dX6_layOut_18 : decode cX6_layOut 18 = .ok (.iconst 1, 1) := dz_at dqX6_layOut_p080 12 rfl
theorem dX6_layOut_19 : decode cX6_layOut 19 = .ok (.istore 4, 2) := dz_at dqX6_layOut_p080 13 rfl
set_option maxRecDepth 20000 in
theorem dqX6_layOut_p081 : dz_rn 21 (cX6_layOut.data.toList.drop 21) [(1, 0), (0, 2), (4, 4), (0, 4), (0, 9), (1, 0), (0, 31), (1, 0), (3, 1), (0, 4), (0, 9), (0, 3), (0, 31), (0, 3)] = some [(21, .iload 4, 2), (23, .iload_n 2, 1), (24, .if_icmp .ge 33, 3), (27, .aload_n 0, 1), (28, .iconst 1, 1), (29, .iload 4, 2), (31, .ishl, 1), (32, .iload 4, 2), (34, .invokevirtual 39, 3), (37, .aload_n 0, 1), (38, .iconst 1, 1), (39, .iload_n 3, 1), (40, .ishl, 1), (41, .iload_n 3, 1)] := by decide +kernel
theorem dX6_layOut_21 : decode cX6_layOut 21 = .ok (.iload 4, 2) := dz_at dqX6_layOut_p081 0 rfl
theorem dX6_layOut_23 : decode cX6_layOut 23 = .ok (.iload_n 2, 1) := dz_at dqX6_layOut_p081 1 rfl
theorem dX6_layOut_24 : decode cX6_layOut 24 = .ok (.if_icmp .ge 33, 3) := dz_at dqX6_layOut_p081 2 rfl
theorem dX6_layOut_27 : decode cX6_layOut 27 = .ok (.aload_n 0, 1) := dz_at dqX6_layOut_p081 3 rfl
theorem dX6_layOut_28 : decode cX6_layOut 28 = .ok (.iconst 1, 1) := dz_at dqX6_layOut_p081 4 rfl
theorem dX6_layOut_29 : decode cX6_layOut 29 = .ok (.iload 4, 2) := dz_at dqX6_layOut_p081 5 rfl
theorem dX6_layOut_31 : decode cX6_layOut 31 = .ok (.ishl, 1) := dz_at dqX6_layOut_p081 6 rfl
theorem dX6_layOut_32 : decode cX6_layOut 32 = .ok (.iload 4, 2) := dz_at dqX6_layOut_p081 7 rfl
theorem dX6_layOut_34 : decode cX6_layOut 34 = .ok (.invokevirtual 39, 3) := dz_at dqX6_layOut_p081 8 rfl
theorem dX6_layOut_37 : decode cX6_layOut 37 = .ok (.aload_n 0, 1) := dz_at dqX6_layOut_p081 9 rfl
theorem dX6_layOut_38 : decode cX6_layOut 38 = .ok (.iconst 1, 1) := dz_at dqX6_layOut_p081 10 rfl
theorem dX6_layOut_39 : decode cX6_layOut 39 = .ok (.iload_n 3, 1) := dz_at dqX6_layOut_p081 11 rfl
theorem dX6_layOut_40 : decode cX6_layOut 40 = .ok (.ishl, 1) := dz_at dqX6_layOut_p081 12 rfl
theorem dX6_layOut_41 : decode cX6_layOut 41 = .ok (.iload_n 3, 1) := dz_at dqX6_layOut_p081 13 rfl
set_option maxRecDepth 20000 in
theorem dqX6_layOut_p082 : dz_rn 42 (cX6_layOut.data.toList.drop 42) [(3, 1), (4, 4), (1, 0), (0, 21), (5, 0), (4, 0), (0, 4), (0, 9), (0, 3), (0, 31), (0, 3), (3, 1), (1, 1), (0, 4)] = some [(42, .invokevirtual 39, 3), (45, .if_icmp .ge 6, 3), (48, .iload 4, 2), (50, .istore_n 3, 1), (51, .iinc 4 1, 3), (54, .goto (-33), 3), (57, .aload_n 0, 1), (58, .iconst 1, 1), (59, .iload_n 3, 1), (60, .ishl, 1), (61, .iload_n 3, 1), (62, .invokevirtual 39, 3), (65, .istore 4, 2), (67, .aload_n 0, 1)] := by decide +kernel
theorem dX6_layOut_42 : decode cX6_layOut 42 = .ok (.invokevirtual 39, 3) := dz_at dqX6_layOut_p082 0 rfl
theorem dX6_layOut_45 : decode cX6_layOut 45 = .ok (.if_icmp .ge 6, 3) := dz_at dqX6_layOut_p082 1 rfl
theorem dX6_layOut_48 : decode cX6_layOut 48 = .ok (.iload 4, 2) := dz_at dqX6_layOut_p082 2 rfl
theorem dX6_layOut_50 : decode cX6_layOut 50 = .ok (.istore_n 3, 1) := dz_at dqX6_layOut_p082 3 rfl
theorem dX6_layOut_51 : decode cX6_layOut 51 = .ok (.iinc 4 1, 3) := dz_at dqX6_layOut_p082 4 rfl
theorem dX6_layOut_54 : decode cX6_layOut 54 = .ok (.goto (-33), 3) := dz_at dqX6_layOut_p082 5 rfl
theorem dX6_layOut_57 : decode cX6_layOut 57 = .ok (.aload_n 0, 1) := dz_at dqX6_layOut_p082 6 rfl
theorem dX6_layOut_58 : decode cX6_layOut 58 = .ok (.iconst 1, 1) := dz_at dqX6_layOut_p082 7 rfl
theorem dX6_layOut_59 : decode cX6_layOut 59 = .ok (.iload_n 3, 1) := dz_at dqX6_layOut_p082 8 rfl
theorem dX6_layOut_60 : decode cX6_layOut 60 = .ok (.ishl, 1) := dz_at dqX6_layOut_p082 9 rfl
theorem dX6_layOut_61 : decode cX6_layOut 61 = .ok (.iload_n 3, 1) := dz_at dqX6_layOut_p082 10 rfl
theorem dX6_layOut_62 : decode cX6_layOut 62 = .ok (.invokevirtual 39, 3) := dz_at dqX6_layOut_p082 11 rfl
theorem dX6_layOut_65 : decode cX6_layOut 65 = .ok (.istore 4, 2) := dz_at dqX6_layOut_p082 12 rfl
theorem dX6_layOut_67 : decode cX6_layOut 67 = .ok (.aload_n 0, 1) := dz_at dqX6_layOut_p082 13 rfl
set_option maxRecDepth 20000 in
theorem dqX6_layOut_p083 : dz_rn 68 (cX6_layOut.data.toList.drop 68) [(0, 3), (0, 2), (3, 1), (1, 0), (0, 12)] = some [(68, .iload_n 3, 1), (69, .iload_n 2, 1), (70, .invokevirtual 43, 3), (73, .iload 4, 2), (75, .ireturn, 1)] := by decide +kernel
theorem dX6_layOut_68 : decode cX6_layOut 68 = .ok (.iload_n 3, 1) := dz_at dqX6_layOut_p083 0 rfl
theorem dX6_layOut_69 : decode cX6_layOut 69 = .ok (.iload_n 2, 1) := dz_at dqX6_layOut_p083 1 rfl
theorem dX6_layOut_70 : decode cX6_layOut 70 = .ok (.invokevirtual 43, 3) := dz_at dqX6_layOut_p083 2 rfl
theorem dX6_layOut_73 : decode cX6_layOut 73 = .ok (.iload 4, 2) := dz_at dqX6_layOut_p083 3 rfl
theorem dX6_layOut_75 : decode cX6_layOut 75 = .ok (.ireturn, 1) := dz_at dqX6_layOut_p083 4 rfl
set_option maxRecDepth 20000 in
theorem dqX6_sort_p080 : dz_rn 0 (cX6_sort.data.toList.drop 0) [(0, 8), (0, 21), (0, 3), (0, 2), (4, 4), (0, 3), (1, 1), (1, 0), (4, 12), (0, 4), (3, 0), (1, 0), (0, 9), (0, 26)] = some [(0, .iconst 0, 1), (1, .istore_n 3, 1), (2, .iload_n 3, 1), (3, .iload_n 2, 1), (4, .if_icmp .ge 64, 3), (7, .iload_n 3, 1), (8, .istore 4, 2), (10, .iload 4, 2), (12, .ifCond .le 40, 3), (15, .aload_n 0, 1), (16, .getfield 9, 3), (19, .iload 4, 2), (21, .iconst 1, 1), (22, .isub, 1)] := by decide +kernel
theorem dX6_sort_0 : decode cX6_sort 0 = .ok (.iconst 0, 1) := dz_at dqX6_sort_p080 0 rfl
theorem dX6_sort_1 : decode cX6_sort 1 = .ok (.istore_n 3, 1) := dz_at dqX6_sort_p080 1 rfl
theorem dX6_sort_2 : decode cX6_sort 2 = .ok (.iload_n 3, 1) := dz_at dqX6_sort_p080 2 rfl
theorem dX6_sort_3 : decode cX6_sort 3 = .ok (.iload_n 2, 1) := dz_at dqX6_sort_p080 3 rfl
theorem dX6_sort_4 : decode cX6_sort 4 = .ok (.if_icmp .ge 64, 3) := dz_at dqX6_sort_p080 4 rfl
theorem dX6_sort_7 : decode cX6_sort 7 = .ok (.iload_n 3, 1) := dz_at dqX6_sort_p080 5 rfl
theorem dX6_sort_8 : decode cX6_sort 8 = .ok (.istore 4, 2) := dz_at dqX6_sort_p080 6 rfl
theorem dX6_sort_10 : decode cX6_sort 10 = .ok (.iload 4, 2) := dz_at dqX6_sort_p080 7 rfl
theorem dX6_sort_12 : decode cX6_sort 12 = .ok (.ifCond .le 40, 3) := dz_at dqX6_sort_p080 8 rfl
theorem dX6_sort_15 : decode cX6_sort 15 = .ok (.aload_n 0, 1) := dz_at dqX6_sort_p080 9 rfl
theorem dX6_sort_16 : decode cX6_sort 16 = .ok (.getfield 9, 3) := dz_at dqX6_sort_p080 10 rfl
theorem dX6_sort_19 : decode cX6_sort 19 = .ok (.iload 4, 2) := dz_at dqX6_sort_p080 11 rfl
theorem dX6_sort_21 : decode cX6_sort 21 = .ok (.iconst 1, 1) := dz_at dqX6_sort_p080 12 rfl
theorem dX6_sort_22 : decode cX6_sort 22 = .ok (.isub, 1) := dz_at dqX6_sort_p080 13 rfl
set_option maxRecDepth 20000 in
theorem dqX6_sort_p081 : dz_rn 23 (cX6_sort.data.toList.drop 23) [(0, 10), (0, 5), (0, 3), (0, 10), (4, 6), (0, 4), (3, 0), (1, 0), (0, 4), (3, 0), (1, 0), (0, 9), (0, 26), (0, 10)] = some [(23, .iaload, 1), (24, .aload_n 1, 1), (25, .iload_n 3, 1), (26, .iaload, 1), (27, .if_icmp .le 25, 3), (30, .aload_n 0, 1), (31, .getfield 9, 3), (34, .iload 4, 2), (36, .aload_n 0, 1), (37, .getfield 9, 3), (40, .iload 4, 2), (42, .iconst 1, 1), (43, .isub, 1), (44, .iaload, 1)] := by decide +kernel
theorem dX6_sort_23 : decode cX6_sort 23 = .ok (.iaload, 1) := dz_at dqX6_sort_p081 0 rfl
theorem dX6_sort_24 : decode cX6_sort 24 = .ok (.aload_n 1, 1) := dz_at dqX6_sort_p081 1 rfl
theorem dX6_sort_25 : decode cX6_sort 25 = .ok (.iload_n 3, 1) := dz_at dqX6_sort_p081 2 rfl
theorem dX6_sort_26 : decode cX6_sort 26 = .ok (.iaload, 1) := dz_at dqX6_sort_p081 3 rfl
theorem dX6_sort_27 : decode cX6_sort 27 = .ok (.if_icmp .le 25, 3) := dz_at dqX6_sort_p081 4 rfl
theorem dX6_sort_30 : decode cX6_sort 30 = .ok (.aload_n 0, 1) := dz_at dqX6_sort_p081 5 rfl
theorem dX6_sort_31 : decode cX6_sort 31 = .ok (.getfield 9, 3) := dz_at dqX6_sort_p081 6 rfl
theorem dX6_sort_34 : decode cX6_sort 34 = .ok (.iload 4, 2) := dz_at dqX6_sort_p081 7 rfl
theorem dX6_sort_36 : decode cX6_sort 36 = .ok (.aload_n 0, 1) := dz_at dqX6_sort_p081 8 rfl
theorem dX6_sort_37 : decode cX6_sort 37 = .ok (.getfield 9, 3) := dz_at dqX6_sort_p081 9 rfl
theorem dX6_sort_40 : decode cX6_sort 40 = .ok (.iload 4, 2) := dz_at dqX6_sort_p081 10 rfl
theorem dX6_sort_42 : decode cX6_sort 42 = .ok (.iconst 1, 1) := dz_at dqX6_sort_p081 11 rfl
theorem dX6_sort_43 : decode cX6_sort 43 = .ok (.isub, 1) := dz_at dqX6_sort_p081 12 rfl
theorem dX6_sort_44 : decode cX6_sort 44 = .ok (.iaload, 1) := dz_at dqX6_sort_p081 13 rfl
set_option maxRecDepth 20000 in
theorem dqX6_sort_p082 : dz_rn 45 (cX6_sort.data.toList.drop 45) [(0, 22), (5, 0), (4, 0), (0, 4), (3, 0), (1, 0), (0, 5), (0, 3), (0, 10), (0, 22), (5, 0), (4, 0), (0, 25)] = some [(45, .iastore, 1), (46, .iinc 4 (-1), 3), (49, .goto (-39), 3), (52, .aload_n 0, 1), (53, .getfield 9, 3), (56, .iload 4, 2), (58, .aload_n 1, 1), (59, .iload_n 3, 1), (60, .iaload, 1), (61, .iastore, 1), (62, .iinc 3 1, 3), (65, .goto (-63), 3), (68, .return_, 1)] := by decide +kernel
theorem dX6_sort_45 : decode cX6_sort 45 = .ok (.iastore, 1) := dz_at dqX6_sort_p082 0 rfl
theorem dX6_sort_46 : decode cX6_sort 46 = .ok (.iinc 4 (-1), 3) := dz_at dqX6_sort_p082 1 rfl
theorem dX6_sort_49 : decode cX6_sort 49 = .ok (.goto (-39), 3) := dz_at dqX6_sort_p082 2 rfl
theorem dX6_sort_52 : decode cX6_sort 52 = .ok (.aload_n 0, 1) := dz_at dqX6_sort_p082 3 rfl
theorem dX6_sort_53 : decode cX6_sort 53 = .ok (.getfield 9, 3) := dz_at dqX6_sort_p082 4 rfl
theorem dX6_sort_56 : decode cX6_sort 56 = .ok (.iload 4, 2) := dz_at dqX6_sort_p082 5 rfl
theorem dX6_sort_58 : decode cX6_sort 58 = .ok (.aload_n 1, 1) := dz_at dqX6_sort_p082 6 rfl
theorem dX6_sort_59 : decode cX6_sort 59 = .ok (.iload_n 3, 1) := dz_at dqX6_sort_p082 7 rfl
theorem dX6_sort_60 : decode cX6_sort 60 = .ok (.iaload, 1) := dz_at dqX6_sort_p082 8 rfl
theorem dX6_sort_61 : decode cX6_sort 61 = .ok (.iastore, 1) := dz_at dqX6_sort_p082 9 rfl
theorem dX6_sort_62 : decode cX6_sort 62 = .ok (.iinc 3 1, 3) := dz_at dqX6_sort_p082 10 rfl
theorem dX6_sort_65 : decode cX6_sort 65 = .ok (.goto (-63), 3) := dz_at dqX6_sort_p082 11 rfl
theorem dX6_sort_68 : decode cX6_sort 68 = .ok (.return_, 1) := dz_at dqX6_sort_p082 12 rfl
set_option maxRecDepth 20000 in
theorem ggX6_reckonShared_X2_shared : GoodIn wsX6_reckonShared wsX2_shared := goodIn_r _ [8, 9, 10, 11, 12, 13, 14, 15, 16, 22] rfl (by decide +kernel)
set_option maxRecDepth 20000 in
theorem gX6_reckonShared_X2_shared : GoodIn wsX6_reckonShared (wsV RX6 47 RX2 yX2_shared wsX2_shared) := goodIn_app (goodIn_of _ (by decide +kernel)) ggX6_reckonShared_X2_shared
set_option maxRecDepth 20000 in
theorem dqX6_reckonShared_p080 : dz_rn 0 (cX6_reckonShared.data.toList.drop 0) [(0, 8), (0, 20), (0, 2), (0, 1), (4, 4), (0, 8), (0, 21), (0, 3), (0, 1), (4, 4), (0, 4), (3, 0), (0, 2), (2, 0)] = some [(0, .iconst 0, 1), (1, .istore_n 2, 1), (2, .iload_n 2, 1), (3, .iload_n 1, 1), (4, .if_icmp .ge 52, 3), (7, .iconst 0, 1), (8, .istore_n 3, 1), (9, .iload_n 3, 1), (10, .iload_n 1, 1), (11, .if_icmp .ge 39, 3), (14, .aload_n 0, 1), (15, .getfield 18, 3), (18, .iload_n 2, 1), (19, .bipush 8, 2)] := by decide +kernel
theorem dX6_reckonShared_0 : decode cX6_reckonShared 0 = .ok (.iconst 0, 1) := dz_at dqX6_reckonShared_p080 0 rfl
theorem dX6_reckonShared_1 : decode cX6_reckonShared 1 = .ok (.istore_n 2, 1) := dz_at dqX6_reckonShared_p080 1 rfl
theorem dX6_reckonShared_2 : decode cX6_reckonShared 2 = .ok (.iload_n 2, 1) := dz_at dqX6_reckonShared_p080 2 rfl
theorem dX6_reckonShared_3 : decode cX6_reckonShared 3 = .ok (.iload_n 1, 1) := dz_at dqX6_reckonShared_p080 3 rfl
theorem dX6_reckonShared_4 : decode cX6_reckonShared 4 = .ok (.if_icmp .ge 52, 3) := dz_at dqX6_reckonShared_p080 4 rfl
theorem dX6_reckonShared_7 : decode cX6_reckonShared 7 = .ok (.iconst 0, 1) := dz_at dqX6_reckonShared_p080 5 rfl
theorem dX6_reckonShared_8 : decode cX6_reckonShared 8 = .ok (.istore_n 3, 1) := dz_at dqX6_reckonShared_p080 6 rfl
theorem dX6_reckonShared_9 : decode cX6_reckonShared 9 = .ok (.iload_n 3, 1) := dz_at dqX6_reckonShared_p080 7 rfl
theorem dX6_reckonShared_10 : decode cX6_reckonShared 10 = .ok (.iload_n 1, 1) := dz_at dqX6_reckonShared_p080 8 rfl
theorem dX6_reckonShared_11 : decode cX6_reckonShared 11 = .ok (.if_icmp .ge 39, 3) := dz_at dqX6_reckonShared_p080 9 rfl
theorem dX6_reckonShared_14 : decode cX6_reckonShared 14 = .ok (.aload_n 0, 1) := dz_at dqX6_reckonShared_p080 10 rfl
theorem dX6_reckonShared_15 : decode cX6_reckonShared 15 = .ok (.getfield 18, 3) := dz_at dqX6_reckonShared_p080 11 rfl
theorem dX6_reckonShared_18 : decode cX6_reckonShared 18 = .ok (.iload_n 2, 1) := dz_at dqX6_reckonShared_p080 12 rfl
theorem dX6_reckonShared_19 : decode cX6_reckonShared 19 = .ok (.bipush 8, 2) := dz_at dqX6_reckonShared_p080 13 rfl
set_option maxRecDepth 20000 in
theorem dqX6_reckonShared_p081 : dz_rn 21 (cX6_reckonShared.data.toList.drop 21) [(0, 23), (0, 3), (0, 11), (0, 4), (3, 0), (0, 4), (3, 0), (0, 2), (0, 10), (0, 4), (3, 0), (0, 3), (0, 10), (3, 1)] = some [(21, .imul, 1), (22, .iload_n 3, 1), (23, .iadd, 1), (24, .aload_n 0, 1), (25, .getfield 24, 3), (28, .aload_n 0, 1), (29, .getfield 9, 3), (32, .iload_n 2, 1), (33, .iaload, 1), (34, .aload_n 0, 1), (35, .getfield 9, 3), (38, .iload_n 3, 1), (39, .iaload, 1), (40, .invokevirtual 47, 3)] := by decide +kernel
theorem dX6_reckonShared_21 : decode cX6_reckonShared 21 = .ok (.imul, 1) := dz_at dqX6_reckonShared_p081 0 rfl
theorem dX6_reckonShared_22 : decode cX6_reckonShared 22 = .ok (.iload_n 3, 1) := dz_at dqX6_reckonShared_p081 1 rfl
theorem dX6_reckonShared_23 : decode cX6_reckonShared 23 = .ok (.iadd, 1) := dz_at dqX6_reckonShared_p081 2 rfl
theorem dX6_reckonShared_24 : decode cX6_reckonShared 24 = .ok (.aload_n 0, 1) := dz_at dqX6_reckonShared_p081 3 rfl
theorem dX6_reckonShared_25 : decode cX6_reckonShared 25 = .ok (.getfield 24, 3) := dz_at dqX6_reckonShared_p081 4 rfl
theorem dX6_reckonShared_28 : decode cX6_reckonShared 28 = .ok (.aload_n 0, 1) := dz_at dqX6_reckonShared_p081 5 rfl
theorem dX6_reckonShared_29 : decode cX6_reckonShared 29 = .ok (.getfield 9, 3) := dz_at dqX6_reckonShared_p081 6 rfl
theorem dX6_reckonShared_32 : decode cX6_reckonShared 32 = .ok (.iload_n 2, 1) := dz_at dqX6_reckonShared_p081 7 rfl
theorem dX6_reckonShared_33 : decode cX6_reckonShared 33 = .ok (.iaload, 1) := dz_at dqX6_reckonShared_p081 8 rfl
theorem dX6_reckonShared_34 : decode cX6_reckonShared 34 = .ok (.aload_n 0, 1) := dz_at dqX6_reckonShared_p081 9 rfl
theorem dX6_reckonShared_35 : decode cX6_reckonShared 35 = .ok (.getfield 9, 3) := dz_at dqX6_reckonShared_p081 10 rfl
theorem dX6_reckonShared_38 : decode cX6_reckonShared 38 = .ok (.iload_n 3, 1) := dz_at dqX6_reckonShared_p081 11 rfl
theorem dX6_reckonShared_39 : decode cX6_reckonShared 39 = .ok (.iaload, 1) := dz_at dqX6_reckonShared_p081 12 rfl
theorem dX6_reckonShared_40 : decode cX6_reckonShared 40 = .ok (.invokevirtual 47, 3) := dz_at dqX6_reckonShared_p081 13 rfl
set_option maxRecDepth 20000 in
theorem dqX6_reckonShared_p082 : dz_rn 43 (cX6_reckonShared.data.toList.drop 43) [(0, 22), (5, 0), (4, 0), (5, 0), (4, 0), (0, 25)] = some [(43, .iastore, 1), (44, .iinc 3 1, 3), (47, .goto (-38), 3), (50, .iinc 2 1, 3), (53, .goto (-51), 3), (56, .return_, 1)] := by decide +kernel
theorem dX6_reckonShared_43 : decode cX6_reckonShared 43 = .ok (.iastore, 1) := dz_at dqX6_reckonShared_p082 0 rfl
theorem dX6_reckonShared_44 : decode cX6_reckonShared 44 = .ok (.iinc 3 1, 3) := dz_at dqX6_reckonShared_p082 1 rfl
theorem dX6_reckonShared_47 : decode cX6_reckonShared 47 = .ok (.goto (-38), 3) := dz_at dqX6_reckonShared_p082 2 rfl
theorem dX6_reckonShared_50 : decode cX6_reckonShared 50 = .ok (.iinc 2 1, 3) := dz_at dqX6_reckonShared_p082 3 rfl
theorem dX6_reckonShared_53 : decode cX6_reckonShared 53 = .ok (.goto (-51), 3) := dz_at dqX6_reckonShared_p082 4 rfl
theorem dX6_reckonShared_56 : decode cX6_reckonShared 56 = .ok (.return_, 1) := dz_at dqX6_reckonShared_p082 5 rfl
set_option maxRecDepth 20000 in
theorem ggX6_reckonToCome_X6_bestNext : GoodIn wsX6_reckonToCome wsX6_bestNext := goodIn_r _ [6, 7, 8, 9, 5, 10, 11, 12, 13, 14, 15, 1, 16, 17, 18, 19, 20] rfl (by decide +kernel)
set_option maxRecDepth 20000 in
theorem gX6_reckonToCome_X6_bestNext : GoodIn wsX6_reckonToCome (wsV RX6 51 RX6 yX6_bestNext wsX6_bestNext) := goodIn_app (goodIn_of _ (by decide +kernel)) ggX6_reckonToCome_X6_bestNext
set_option maxRecDepth 20000 in
theorem ggX6_reckonToCome_X6_throughNext : GoodIn wsX6_reckonToCome wsX6_throughNext := goodIn_r _ [10, 11, 12, 13, 14, 5, 15, 1, 16, 17, 18, 19, 20] rfl (by decide +kernel)
set_option maxRecDepth 20000 in
theorem gX6_reckonToCome_X6_throughNext : GoodIn wsX6_reckonToCome (wsV RX6 55 RX6 yX6_throughNext wsX6_throughNext) := goodIn_app (goodIn_of _ (by decide +kernel)) ggX6_reckonToCome_X6_throughNext
set_option maxRecDepth 20000 in
theorem dqX6_reckonToCome_p080 : dz_rn 0 (cX6_reckonToCome.data.toList.drop 0) [(0, 9), (0, 1), (0, 31), (0, 9), (0, 26), (0, 20), (0, 2), (0, 21), (0, 3), (4, 12), (0, 8), (1, 1), (1, 0), (0, 1)] = some [(0, .iconst 1, 1), (1, .iload_n 1, 1), (2, .ishl, 1), (3, .iconst 1, 1), (4, .isub, 1), (5, .istore_n 2, 1), (6, .iload_n 2, 1), (7, .istore_n 3, 1), (8, .iload_n 3, 1), (9, .ifCond .le 75, 3), (12, .iconst 0, 1), (13, .istore 4, 2), (15, .iload 4, 2), (17, .iload_n 1, 1)] := by decide +kernel
theorem dX6_reckonToCome_0 : decode cX6_reckonToCome 0 = .ok (.iconst 1, 1) := dz_at dqX6_reckonToCome_p080 0 rfl
theorem dX6_reckonToCome_1 : decode cX6_reckonToCome 1 = .ok (.iload_n 1, 1) := dz_at dqX6_reckonToCome_p080 1 rfl
theorem dX6_reckonToCome_2 : decode cX6_reckonToCome 2 = .ok (.ishl, 1) := dz_at dqX6_reckonToCome_p080 2 rfl
theorem dX6_reckonToCome_3 : decode cX6_reckonToCome 3 = .ok (.iconst 1, 1) := dz_at dqX6_reckonToCome_p080 3 rfl
theorem dX6_reckonToCome_4 : decode cX6_reckonToCome 4 = .ok (.isub, 1) := dz_at dqX6_reckonToCome_p080 4 rfl
theorem dX6_reckonToCome_5 : decode cX6_reckonToCome 5 = .ok (.istore_n 2, 1) := dz_at dqX6_reckonToCome_p080 5 rfl
theorem dX6_reckonToCome_6 : decode cX6_reckonToCome 6 = .ok (.iload_n 2, 1) := dz_at dqX6_reckonToCome_p080 6 rfl
theorem dX6_reckonToCome_7 : decode cX6_reckonToCome 7 = .ok (.istore_n 3, 1) := dz_at dqX6_reckonToCome_p080 7 rfl
theorem dX6_reckonToCome_8 : decode cX6_reckonToCome 8 = .ok (.iload_n 3, 1) := dz_at dqX6_reckonToCome_p080 8 rfl
theorem dX6_reckonToCome_9 : decode cX6_reckonToCome 9 = .ok (.ifCond .le 75, 3) := dz_at dqX6_reckonToCome_p080 9 rfl
theorem dX6_reckonToCome_12 : decode cX6_reckonToCome 12 = .ok (.iconst 0, 1) := dz_at dqX6_reckonToCome_p080 10 rfl
theorem dX6_reckonToCome_13 : decode cX6_reckonToCome 13 = .ok (.istore 4, 2) := dz_at dqX6_reckonToCome_p080 11 rfl
theorem dX6_reckonToCome_15 : decode cX6_reckonToCome 15 = .ok (.iload 4, 2) := dz_at dqX6_reckonToCome_p080 12 rfl
theorem dX6_reckonToCome_17 : decode cX6_reckonToCome 17 = .ok (.iload_n 1, 1) := dz_at dqX6_reckonToCome_p080 13 rfl
set_option maxRecDepth 20000 in
theorem dqX6_reckonToCome_p081 : dz_rn 18 (cX6_reckonToCome.data.toList.drop 18) [(4, 4), (0, 3), (1, 0), (0, 32), (0, 9), (0, 29), (0, 9), (4, 2), (0, 4), (0, 3), (1, 0), (0, 1), (3, 1), (1, 1)] = some [(18, .if_icmp .ge 60, 3), (21, .iload_n 3, 1), (22, .iload 4, 2), (24, .ishr, 1), (25, .iconst 1, 1), (26, .iand, 1), (27, .iconst 1, 1), (28, .if_icmp .ne 44, 3), (31, .aload_n 0, 1), (32, .iload_n 3, 1), (33, .iload 4, 2), (35, .iload_n 1, 1), (36, .invokevirtual 51, 3), (39, .istore 5, 2)] := by decide +kernel
theorem dX6_reckonToCome_18 : decode cX6_reckonToCome 18 = .ok (.if_icmp .ge 60, 3) := dz_at dqX6_reckonToCome_p081 0 rfl
theorem dX6_reckonToCome_21 : decode cX6_reckonToCome 21 = .ok (.iload_n 3, 1) := dz_at dqX6_reckonToCome_p081 1 rfl
theorem dX6_reckonToCome_22 : decode cX6_reckonToCome 22 = .ok (.iload 4, 2) := dz_at dqX6_reckonToCome_p081 2 rfl
theorem dX6_reckonToCome_24 : decode cX6_reckonToCome 24 = .ok (.ishr, 1) := dz_at dqX6_reckonToCome_p081 3 rfl
theorem dX6_reckonToCome_25 : decode cX6_reckonToCome 25 = .ok (.iconst 1, 1) := dz_at dqX6_reckonToCome_p081 4 rfl
theorem dX6_reckonToCome_26 : decode cX6_reckonToCome 26 = .ok (.iand, 1) := dz_at dqX6_reckonToCome_p081 5 rfl
theorem dX6_reckonToCome_27 : decode cX6_reckonToCome 27 = .ok (.iconst 1, 1) := dz_at dqX6_reckonToCome_p081 6 rfl
theorem dX6_reckonToCome_28 : decode cX6_reckonToCome 28 = .ok (.if_icmp .ne 44, 3) := dz_at dqX6_reckonToCome_p081 7 rfl
theorem dX6_reckonToCome_31 : decode cX6_reckonToCome 31 = .ok (.aload_n 0, 1) := dz_at dqX6_reckonToCome_p081 8 rfl
theorem dX6_reckonToCome_32 : decode cX6_reckonToCome 32 = .ok (.iload_n 3, 1) := dz_at dqX6_reckonToCome_p081 9 rfl
theorem dX6_reckonToCome_33 : decode cX6_reckonToCome 33 = .ok (.iload 4, 2) := dz_at dqX6_reckonToCome_p081 10 rfl
theorem dX6_reckonToCome_35 : decode cX6_reckonToCome 35 = .ok (.iload_n 1, 1) := dz_at dqX6_reckonToCome_p081 11 rfl
theorem dX6_reckonToCome_36 : decode cX6_reckonToCome 36 = .ok (.invokevirtual 51, 3) := dz_at dqX6_reckonToCome_p081 12 rfl
theorem dX6_reckonToCome_39 : decode cX6_reckonToCome 39 = .ok (.istore 5, 2) := dz_at dqX6_reckonToCome_p081 13 rfl
set_option maxRecDepth 20000 in
theorem dqX6_reckonToCome_p082 : dz_rn 41 (cX6_reckonToCome.data.toList.drop 41) [(0, 4), (3, 0), (0, 3), (2, 0), (0, 23), (1, 0), (0, 11), (1, 0), (0, 13), (4, 2), (0, 8), (4, 0), (0, 4), (0, 3)] = some [(41, .aload_n 0, 1), (42, .getfield 21, 3), (45, .iload_n 3, 1), (46, .bipush 8, 2), (48, .imul, 1), (49, .iload 4, 2), (51, .iadd, 1), (52, .iload 5, 2), (54, .iconst (-1), 1), (55, .if_icmp .ne 7, 3), (58, .iconst 0, 1), (59, .goto 12, 3), (62, .aload_n 0, 1), (63, .iload_n 3, 1)] := by decide +kernel
theorem dX6_reckonToCome_41 : decode cX6_reckonToCome 41 = .ok (.aload_n 0, 1) := dz_at dqX6_reckonToCome_p082 0 rfl
theorem dX6_reckonToCome_42 : decode cX6_reckonToCome 42 = .ok (.getfield 21, 3) := dz_at dqX6_reckonToCome_p082 1 rfl
theorem dX6_reckonToCome_45 : decode cX6_reckonToCome 45 = .ok (.iload_n 3, 1) := dz_at dqX6_reckonToCome_p082 2 rfl
theorem dX6_reckonToCome_46 : decode cX6_reckonToCome 46 = .ok (.bipush 8, 2) := dz_at dqX6_reckonToCome_p082 3 rfl
theorem dX6_reckonToCome_48 : decode cX6_reckonToCome 48 = .ok (.imul, 1) := dz_at dqX6_reckonToCome_p082 4 rfl
theorem dX6_reckonToCome_49 : decode cX6_reckonToCome 49 = .ok (.iload 4, 2) := dz_at dqX6_reckonToCome_p082 5 rfl
theorem dX6_reckonToCome_51 : decode cX6_reckonToCome 51 = .ok (.iadd, 1) := dz_at dqX6_reckonToCome_p082 6 rfl
theorem dX6_reckonToCome_52 : decode cX6_reckonToCome 52 = .ok (.iload 5, 2) := dz_at dqX6_reckonToCome_p082 7 rfl
theorem dX6_reckonToCome_54 : decode cX6_reckonToCome 54 = .ok (.iconst (-1), 1) := dz_at dqX6_reckonToCome_p082 8 rfl
theorem dX6_reckonToCome_55 : decode cX6_reckonToCome 55 = .ok (.if_icmp .ne 7, 3) := dz_at dqX6_reckonToCome_p082 9 rfl
theorem dX6_reckonToCome_58 : decode cX6_reckonToCome 58 = .ok (.iconst 0, 1) := dz_at dqX6_reckonToCome_p082 10 rfl
theorem dX6_reckonToCome_59 : decode cX6_reckonToCome 59 = .ok (.goto 12, 3) := dz_at dqX6_reckonToCome_p082 11 rfl
theorem dX6_reckonToCome_62 : decode cX6_reckonToCome 62 = .ok (.aload_n 0, 1) := dz_at dqX6_reckonToCome_p082 12 rfl
theorem dX6_reckonToCome_63 : decode cX6_reckonToCome 63 = .ok (.iload_n 3, 1) := dz_at dqX6_reckonToCome_p082 13 rfl
set_option maxRecDepth 20000 in
theorem dqX6_reckonToCome_p083 : dz_rn 64 (cX6_reckonToCome.data.toList.drop 64) [(1, 0), (1, 0), (3, 1), (0, 22), (5, 0), (4, 0), (5, 0), (4, 0), (0, 25)] = some [(64, .iload 4, 2), (66, .iload 5, 2), (68, .invokevirtual 55, 3), (71, .iastore, 1), (72, .iinc 4 1, 3), (75, .goto (-60), 3), (78, .iinc 3 (-1), 3), (81, .goto (-73), 3), (84, .return_, 1)] := by decide +kernel
theorem dX6_reckonToCome_64 : decode cX6_reckonToCome 64 = .ok (.iload 4, 2) := dz_at dqX6_reckonToCome_p083 0 rfl
theorem dX6_reckonToCome_66 : decode cX6_reckonToCome 66 = .ok (.iload 5, 2) := dz_at dqX6_reckonToCome_p083 1 rfl
theorem dX6_reckonToCome_68 : decode cX6_reckonToCome 68 = .ok (.invokevirtual 55, 3) := dz_at dqX6_reckonToCome_p083 2 rfl
theorem dX6_reckonToCome_71 : decode cX6_reckonToCome 71 = .ok (.iastore, 1) := dz_at dqX6_reckonToCome_p083 3 rfl
theorem dX6_reckonToCome_72 : decode cX6_reckonToCome 72 = .ok (.iinc 4 1, 3) := dz_at dqX6_reckonToCome_p083 4 rfl
theorem dX6_reckonToCome_75 : decode cX6_reckonToCome 75 = .ok (.goto (-60), 3) := dz_at dqX6_reckonToCome_p083 5 rfl
theorem dX6_reckonToCome_78 : decode cX6_reckonToCome 78 = .ok (.iinc 3 (-1), 3) := dz_at dqX6_reckonToCome_p083 6 rfl
theorem dX6_reckonToCome_81 : decode cX6_reckonToCome 81 = .ok (.goto (-73), 3) := dz_at dqX6_reckonToCome_p083 7 rfl
theorem dX6_reckonToCome_84 : decode cX6_reckonToCome 84 = .ok (.return_, 1) := dz_at dqX6_reckonToCome_p083 8 rfl
set_option maxRecDepth 20000 in
theorem ggX6_follow_X6_bestNext : GoodIn wsX6_follow wsX6_bestNext := goodIn_r _ [7, 8, 9, 10, 6, 11, 12, 13, 14, 15, 16, 17, 18, 19, 20, 21, 22] rfl (by decide +kernel)
set_option maxRecDepth 20000 in
theorem gX6_follow_X6_bestNext : GoodIn wsX6_follow (wsV RX6 51 RX6 yX6_bestNext wsX6_bestNext) := goodIn_app (goodIn_of _ (by decide +kernel)) ggX6_follow_X6_bestNext
set_option maxRecDepth 20000 in
theorem dqX6_follow_p080 : dz_rn 0 (cX6_follow.data.toList.drop 0) [(0, 1), (0, 21), (0, 9), (0, 1), (0, 31), (1, 1), (0, 4), (3, 0), (0, 8), (0, 4), (3, 0), (0, 1), (0, 10), (0, 22)] = some [(0, .iload_n 1, 1), (1, .istore_n 3, 1), (2, .iconst 1, 1), (3, .iload_n 1, 1), (4, .ishl, 1), (5, .istore 4, 2), (7, .aload_n 0, 1), (8, .getfield 15, 3), (11, .iconst 0, 1), (12, .aload_n 0, 1), (13, .getfield 9, 3), (16, .iload_n 1, 1), (17, .iaload, 1), (18, .iastore, 1)] := by decide +kernel
theorem dX6_follow_0 : decode cX6_follow 0 = .ok (.iload_n 1, 1) := dz_at dqX6_follow_p080 0 rfl
theorem dX6_follow_1 : decode cX6_follow 1 = .ok (.istore_n 3, 1) := dz_at dqX6_follow_p080 1 rfl
theorem dX6_follow_2 : decode cX6_follow 2 = .ok (.iconst 1, 1) := dz_at dqX6_follow_p080 2 rfl
theorem dX6_follow_3 : decode cX6_follow 3 = .ok (.iload_n 1, 1) := dz_at dqX6_follow_p080 3 rfl
theorem dX6_follow_4 : decode cX6_follow 4 = .ok (.ishl, 1) := dz_at dqX6_follow_p080 4 rfl
theorem dX6_follow_5 : decode cX6_follow 5 = .ok (.istore 4, 2) := dz_at dqX6_follow_p080 5 rfl
theorem dX6_follow_7 : decode cX6_follow 7 = .ok (.aload_n 0, 1) := dz_at dqX6_follow_p080 6 rfl
theorem dX6_follow_8 : decode cX6_follow 8 = .ok (.getfield 15, 3) := dz_at dqX6_follow_p080 7 rfl
theorem dX6_follow_11 : decode cX6_follow 11 = .ok (.iconst 0, 1) := dz_at dqX6_follow_p080 8 rfl
theorem dX6_follow_12 : decode cX6_follow 12 = .ok (.aload_n 0, 1) := dz_at dqX6_follow_p080 9 rfl
theorem dX6_follow_13 : decode cX6_follow 13 = .ok (.getfield 9, 3) := dz_at dqX6_follow_p080 10 rfl
theorem dX6_follow_16 : decode cX6_follow 16 = .ok (.iload_n 1, 1) := dz_at dqX6_follow_p080 11 rfl
theorem dX6_follow_17 : decode cX6_follow 17 = .ok (.iaload, 1) := dz_at dqX6_follow_p080 12 rfl
theorem dX6_follow_18 : decode cX6_follow 18 = .ok (.iastore, 1) := dz_at dqX6_follow_p080 13 rfl
set_option maxRecDepth 20000 in
theorem dqX6_follow_p081 : dz_rn 19 (cX6_follow.data.toList.drop 19) [(0, 9), (1, 1), (1, 0), (0, 2), (4, 4), (0, 4), (1, 0), (0, 3), (0, 2), (3, 1), (1, 1), (1, 0), (0, 13), (4, 2)] = some [(19, .iconst 1, 1), (20, .istore 5, 2), (22, .iload 5, 2), (24, .iload_n 2, 1), (25, .if_icmp .ge 52, 3), (28, .aload_n 0, 1), (29, .iload 4, 2), (31, .iload_n 3, 1), (32, .iload_n 2, 1), (33, .invokevirtual 51, 3), (36, .istore 6, 2), (38, .iload 6, 2), (40, .iconst (-1), 1), (41, .if_icmp .ne 4, 3)] := by decide +kernel
theorem dX6_follow_19 : decode cX6_follow 19 = .ok (.iconst 1, 1) := dz_at dqX6_follow_p081 0 rfl
theorem dX6_follow_20 : decode cX6_follow 20 = .ok (.istore 5, 2) := dz_at dqX6_follow_p081 1 rfl
theorem dX6_follow_22 : decode cX6_follow 22 = .ok (.iload 5, 2) := dz_at dqX6_follow_p081 2 rfl
theorem dX6_follow_24 : decode cX6_follow 24 = .ok (.iload_n 2, 1) := dz_at dqX6_follow_p081 3 rfl
theorem dX6_follow_25 : decode cX6_follow 25 = .ok (.if_icmp .ge 52, 3) := dz_at dqX6_follow_p081 4 rfl
theorem dX6_follow_28 : decode cX6_follow 28 = .ok (.aload_n 0, 1) := dz_at dqX6_follow_p081 5 rfl
theorem dX6_follow_29 : decode cX6_follow 29 = .ok (.iload 4, 2) := dz_at dqX6_follow_p081 6 rfl
theorem dX6_follow_31 : decode cX6_follow 31 = .ok (.iload_n 3, 1) := dz_at dqX6_follow_p081 7 rfl
theorem dX6_follow_32 : decode cX6_follow 32 = .ok (.iload_n 2, 1) := dz_at dqX6_follow_p081 8 rfl
theorem dX6_follow_33 : decode cX6_follow 33 = .ok (.invokevirtual 51, 3) := dz_at dqX6_follow_p081 9 rfl
theorem dX6_follow_36 : decode cX6_follow 36 = .ok (.istore 6, 2) := dz_at dqX6_follow_p081 10 rfl
theorem dX6_follow_38 : decode cX6_follow 38 = .ok (.iload 6, 2) := dz_at dqX6_follow_p081 11 rfl
theorem dX6_follow_40 : decode cX6_follow 40 = .ok (.iconst (-1), 1) := dz_at dqX6_follow_p081 12 rfl
theorem dX6_follow_41 : decode cX6_follow 41 = .ok (.if_icmp .ne 4, 3) := dz_at dqX6_follow_p081 13 rfl
set_option maxRecDepth 20000 in
theorem dqX6_follow_p082 : dz_rn 44 (cX6_follow.data.toList.drop 44) [(0, 25), (0, 4), (3, 0), (1, 0), (0, 4), (3, 0), (1, 0), (0, 10), (0, 22), (1, 0), (0, 9), (1, 0), (0, 31), (0, 39)] = some [(44, .return_, 1), (45, .aload_n 0, 1), (46, .getfield 15, 3), (49, .iload 5, 2), (51, .aload_n 0, 1), (52, .getfield 9, 3), (55, .iload 6, 2), (57, .iaload, 1), (58, .iastore, 1), (59, .iload 4, 2), (61, .iconst 1, 1), (62, .iload 6, 2), (64, .ishl, 1), (65, .ior, 1)] := by decide +kernel
theorem dX6_follow_44 : decode cX6_follow 44 = .ok (.return_, 1) := dz_at dqX6_follow_p082 0 rfl
theorem dX6_follow_45 : decode cX6_follow 45 = .ok (.aload_n 0, 1) := dz_at dqX6_follow_p082 1 rfl
theorem dX6_follow_46 : decode cX6_follow 46 = .ok (.getfield 15, 3) := dz_at dqX6_follow_p082 2 rfl
theorem dX6_follow_49 : decode cX6_follow 49 = .ok (.iload 5, 2) := dz_at dqX6_follow_p082 3 rfl
theorem dX6_follow_51 : decode cX6_follow 51 = .ok (.aload_n 0, 1) := dz_at dqX6_follow_p082 4 rfl
theorem dX6_follow_52 : decode cX6_follow 52 = .ok (.getfield 9, 3) := dz_at dqX6_follow_p082 5 rfl
theorem dX6_follow_55 : decode cX6_follow 55 = .ok (.iload 6, 2) := dz_at dqX6_follow_p082 6 rfl
theorem dX6_follow_57 : decode cX6_follow 57 = .ok (.iaload, 1) := dz_at dqX6_follow_p082 7 rfl
theorem dX6_follow_58 : decode cX6_follow 58 = .ok (.iastore, 1) := dz_at dqX6_follow_p082 8 rfl
theorem dX6_follow_59 : decode cX6_follow 59 = .ok (.iload 4, 2) := dz_at dqX6_follow_p082 9 rfl
theorem dX6_follow_61 : decode cX6_follow 61 = .ok (.iconst 1, 1) := dz_at dqX6_follow_p082 10 rfl
theorem dX6_follow_62 : decode cX6_follow 62 = .ok (.iload 6, 2) := dz_at dqX6_follow_p082 11 rfl
theorem dX6_follow_64 : decode cX6_follow 64 = .ok (.ishl, 1) := dz_at dqX6_follow_p082 12 rfl
theorem dX6_follow_65 : decode cX6_follow 65 = .ok (.ior, 1) := dz_at dqX6_follow_p082 13 rfl
set_option maxRecDepth 20000 in
theorem dqX6_follow_p083 : dz_rn 66 (cX6_follow.data.toList.drop 66) [(1, 1), (1, 0), (0, 21), (5, 0), (4, 0), (0, 25)] = some [(66, .istore 4, 2), (68, .iload 6, 2), (70, .istore_n 3, 1), (71, .iinc 5 1, 3), (74, .goto (-52), 3), (77, .return_, 1)] := by decide +kernel
theorem dX6_follow_66 : decode cX6_follow 66 = .ok (.istore 4, 2) := dz_at dqX6_follow_p083 0 rfl
theorem dX6_follow_68 : decode cX6_follow 68 = .ok (.iload 6, 2) := dz_at dqX6_follow_p083 1 rfl
theorem dX6_follow_70 : decode cX6_follow 70 = .ok (.istore_n 3, 1) := dz_at dqX6_follow_p083 2 rfl
theorem dX6_follow_71 : decode cX6_follow 71 = .ok (.iinc 5 1, 3) := dz_at dqX6_follow_p083 3 rfl
theorem dX6_follow_74 : decode cX6_follow 74 = .ok (.goto (-52), 3) := dz_at dqX6_follow_p083 4 rfl
theorem dX6_follow_77 : decode cX6_follow 77 = .ok (.return_, 1) := dz_at dqX6_follow_p083 5 rfl
set_option maxRecDepth 20000 in
theorem ggX6_bestNext_X6_throughNext : GoodIn wsX6_bestNext wsX6_throughNext := goodIn_r _ [5, 6, 7, 8, 9, 4, 10, 11, 12, 13, 14, 15, 16] rfl (by decide +kernel)
set_option maxRecDepth 20000 in
theorem gX6_bestNext_X6_throughNext : GoodIn wsX6_bestNext (wsV RX6 55 RX6 yX6_throughNext wsX6_throughNext) := goodIn_app (goodIn_of _ (by decide +kernel)) ggX6_bestNext_X6_throughNext
set_option maxRecDepth 20000 in
theorem dqX6_bestNext_p080 : dz_rn 0 (cX6_bestNext.data.toList.drop 0) [(0, 13), (1, 1), (0, 8), (1, 1), (1, 0), (0, 3), (4, 4), (0, 1), (1, 0), (0, 32), (0, 9), (0, 29), (4, 8), (1, 0)] = some [(0, .iconst (-1), 1), (1, .istore 4, 2), (3, .iconst 0, 1), (4, .istore 5, 2), (6, .iload 5, 2), (8, .iload_n 3, 1), (9, .if_icmp .ge 47, 3), (12, .iload_n 1, 1), (13, .iload 5, 2), (15, .ishr, 1), (16, .iconst 1, 1), (17, .iand, 1), (18, .ifCond .ne 32, 3), (21, .iload 4, 2)] := by decide +kernel
theorem dX6_bestNext_0 : decode cX6_bestNext 0 = .ok (.iconst (-1), 1) := dz_at dqX6_bestNext_p080 0 rfl
theorem dX6_bestNext_1 : decode cX6_bestNext 1 = .ok (.istore 4, 2) := dz_at dqX6_bestNext_p080 1 rfl
theorem dX6_bestNext_3 : decode cX6_bestNext 3 = .ok (.iconst 0, 1) := dz_at dqX6_bestNext_p080 2 rfl
theorem dX6_bestNext_4 : decode cX6_bestNext 4 = .ok (.istore 5, 2) := dz_at dqX6_bestNext_p080 3 rfl
theorem dX6_bestNext_6 : decode cX6_bestNext 6 = .ok (.iload 5, 2) := dz_at dqX6_bestNext_p080 4 rfl
theorem dX6_bestNext_8 : decode cX6_bestNext 8 = .ok (.iload_n 3, 1) := dz_at dqX6_bestNext_p080 5 rfl
theorem dX6_bestNext_9 : decode cX6_bestNext 9 = .ok (.if_icmp .ge 47, 3) := dz_at dqX6_bestNext_p080 6 rfl
theorem dX6_bestNext_12 : decode cX6_bestNext 12 = .ok (.iload_n 1, 1) := dz_at dqX6_bestNext_p080 7 rfl
theorem dX6_bestNext_13 : decode cX6_bestNext 13 = .ok (.iload 5, 2) := dz_at dqX6_bestNext_p080 8 rfl
theorem dX6_bestNext_15 : decode cX6_bestNext 15 = .ok (.ishr, 1) := dz_at dqX6_bestNext_p080 9 rfl
theorem dX6_bestNext_16 : decode cX6_bestNext 16 = .ok (.iconst 1, 1) := dz_at dqX6_bestNext_p080 10 rfl
theorem dX6_bestNext_17 : decode cX6_bestNext 17 = .ok (.iand, 1) := dz_at dqX6_bestNext_p080 11 rfl
theorem dX6_bestNext_18 : decode cX6_bestNext 18 = .ok (.ifCond .ne 32, 3) := dz_at dqX6_bestNext_p080 12 rfl
theorem dX6_bestNext_21 : decode cX6_bestNext 21 = .ok (.iload 4, 2) := dz_at dqX6_bestNext_p080 13 rfl
set_option maxRecDepth 20000 in
theorem dqX6_bestNext_p081 : dz_rn 23 (cX6_bestNext.data.toList.drop 23) [(0, 13), (4, 1), (0, 4), (0, 1), (0, 2), (1, 0), (3, 1), (0, 4), (0, 1), (0, 2), (1, 0), (3, 1), (4, 4), (1, 0)] = some [(23, .iconst (-1), 1), (24, .if_icmp .eq 22, 3), (27, .aload_n 0, 1), (28, .iload_n 1, 1), (29, .iload_n 2, 1), (30, .iload 5, 2), (32, .invokevirtual 55, 3), (35, .aload_n 0, 1), (36, .iload_n 1, 1), (37, .iload_n 2, 1), (38, .iload 4, 2), (40, .invokevirtual 55, 3), (43, .if_icmp .ge 7, 3), (46, .iload 5, 2)] := by decide +kernel
theorem dX6_bestNext_23 : decode cX6_bestNext 23 = .ok (.iconst (-1), 1) := dz_at dqX6_bestNext_p081 0 rfl
theorem dX6_bestNext_24 : decode cX6_bestNext 24 = .ok (.if_icmp .eq 22, 3) := dz_at dqX6_bestNext_p081 1 rfl
theorem dX6_bestNext_27 : decode cX6_bestNext 27 = .ok (.aload_n 0, 1) := dz_at dqX6_bestNext_p081 2 rfl
theorem dX6_bestNext_28 : decode cX6_bestNext 28 = .ok (.iload_n 1, 1) := dz_at dqX6_bestNext_p081 3 rfl
theorem dX6_bestNext_29 : decode cX6_bestNext 29 = .ok (.iload_n 2, 1) := dz_at dqX6_bestNext_p081 4 rfl
theorem dX6_bestNext_30 : decode cX6_bestNext 30 = .ok (.iload 5, 2) := dz_at dqX6_bestNext_p081 5 rfl
theorem dX6_bestNext_32 : decode cX6_bestNext 32 = .ok (.invokevirtual 55, 3) := dz_at dqX6_bestNext_p081 6 rfl
theorem dX6_bestNext_35 : decode cX6_bestNext 35 = .ok (.aload_n 0, 1) := dz_at dqX6_bestNext_p081 7 rfl
theorem dX6_bestNext_36 : decode cX6_bestNext 36 = .ok (.iload_n 1, 1) := dz_at dqX6_bestNext_p081 8 rfl
theorem dX6_bestNext_37 : decode cX6_bestNext 37 = .ok (.iload_n 2, 1) := dz_at dqX6_bestNext_p081 9 rfl
theorem dX6_bestNext_38 : decode cX6_bestNext 38 = .ok (.iload 4, 2) := dz_at dqX6_bestNext_p081 10 rfl
theorem dX6_bestNext_40 : decode cX6_bestNext 40 = .ok (.invokevirtual 55, 3) := dz_at dqX6_bestNext_p081 11 rfl
theorem dX6_bestNext_43 : decode cX6_bestNext 43 = .ok (.if_icmp .ge 7, 3) := dz_at dqX6_bestNext_p081 12 rfl
theorem dX6_bestNext_46 : decode cX6_bestNext 46 = .ok (.iload 5, 2) := dz_at dqX6_bestNext_p081 13 rfl
set_option maxRecDepth 20000 in
theorem dqX6_bestNext_p082 : dz_rn 48 (cX6_bestNext.data.toList.drop 48) [(1, 1), (5, 0), (4, 0), (1, 0), (0, 12)] = some [(48, .istore 4, 2), (50, .iinc 5 1, 3), (53, .goto (-47), 3), (56, .iload 4, 2), (58, .ireturn, 1)] := by decide +kernel
theorem dX6_bestNext_48 : decode cX6_bestNext 48 = .ok (.istore 4, 2) := dz_at dqX6_bestNext_p082 0 rfl
theorem dX6_bestNext_50 : decode cX6_bestNext 50 = .ok (.iinc 5 1, 3) := dz_at dqX6_bestNext_p082 1 rfl
theorem dX6_bestNext_53 : decode cX6_bestNext 53 = .ok (.goto (-47), 3) := dz_at dqX6_bestNext_p082 2 rfl
theorem dX6_bestNext_56 : decode cX6_bestNext 56 = .ok (.iload 4, 2) := dz_at dqX6_bestNext_p082 3 rfl
theorem dX6_bestNext_58 : decode cX6_bestNext 58 = .ok (.ireturn, 1) := dz_at dqX6_bestNext_p082 4 rfl
set_option maxRecDepth 20000 in
theorem ggX6_throughNext_X6_toComeAt : GoodIn wsX6_throughNext wsX6_toComeAt := goodIn_r _ [6, 7, 8, 9, 10, 11, 12] rfl (by decide +kernel)
set_option maxRecDepth 20000 in
theorem gX6_throughNext_X6_toComeAt : GoodIn wsX6_throughNext (wsV RX6 39 RX6 yX6_toComeAt wsX6_toComeAt) := goodIn_app (goodIn_of _ (by decide +kernel)) ggX6_throughNext_X6_toComeAt
set_option maxRecDepth 20000 in
theorem dqX6_throughNext_p080 : dz_rn 0 (cX6_throughNext.data.toList.drop 0) [(0, 4), (3, 0), (0, 2), (2, 0), (0, 23), (0, 3), (0, 11), (0, 10), (0, 4), (0, 1), (0, 9), (0, 3), (0, 31), (0, 39)] = some [(0, .aload_n 0, 1), (1, .getfield 18, 3), (4, .iload_n 2, 1), (5, .bipush 8, 2), (7, .imul, 1), (8, .iload_n 3, 1), (9, .iadd, 1), (10, .iaload, 1), (11, .aload_n 0, 1), (12, .iload_n 1, 1), (13, .iconst 1, 1), (14, .iload_n 3, 1), (15, .ishl, 1), (16, .ior, 1)] := by decide +kernel
theorem dX6_throughNext_0 : decode cX6_throughNext 0 = .ok (.aload_n 0, 1) := dz_at dqX6_throughNext_p080 0 rfl
theorem dX6_throughNext_1 : decode cX6_throughNext 1 = .ok (.getfield 18, 3) := dz_at dqX6_throughNext_p080 1 rfl
theorem dX6_throughNext_4 : decode cX6_throughNext 4 = .ok (.iload_n 2, 1) := dz_at dqX6_throughNext_p080 2 rfl
theorem dX6_throughNext_5 : decode cX6_throughNext 5 = .ok (.bipush 8, 2) := dz_at dqX6_throughNext_p080 3 rfl
theorem dX6_throughNext_7 : decode cX6_throughNext 7 = .ok (.imul, 1) := dz_at dqX6_throughNext_p080 4 rfl
theorem dX6_throughNext_8 : decode cX6_throughNext 8 = .ok (.iload_n 3, 1) := dz_at dqX6_throughNext_p080 5 rfl
theorem dX6_throughNext_9 : decode cX6_throughNext 9 = .ok (.iadd, 1) := dz_at dqX6_throughNext_p080 6 rfl
theorem dX6_throughNext_10 : decode cX6_throughNext 10 = .ok (.iaload, 1) := dz_at dqX6_throughNext_p080 7 rfl
theorem dX6_throughNext_11 : decode cX6_throughNext 11 = .ok (.aload_n 0, 1) := dz_at dqX6_throughNext_p080 8 rfl
theorem dX6_throughNext_12 : decode cX6_throughNext 12 = .ok (.iload_n 1, 1) := dz_at dqX6_throughNext_p080 9 rfl
theorem dX6_throughNext_13 : decode cX6_throughNext 13 = .ok (.iconst 1, 1) := dz_at dqX6_throughNext_p080 10 rfl
theorem dX6_throughNext_14 : decode cX6_throughNext 14 = .ok (.iload_n 3, 1) := dz_at dqX6_throughNext_p080 11 rfl
theorem dX6_throughNext_15 : decode cX6_throughNext 15 = .ok (.ishl, 1) := dz_at dqX6_throughNext_p080 12 rfl
theorem dX6_throughNext_16 : decode cX6_throughNext 16 = .ok (.ior, 1) := dz_at dqX6_throughNext_p080 13 rfl
set_option maxRecDepth 20000 in
theorem dqX6_throughNext_p081 : dz_rn 17 (cX6_throughNext.data.toList.drop 17) [(0, 3), (3, 1), (0, 11), (0, 12)] = some [(17, .iload_n 3, 1), (18, .invokevirtual 39, 3), (21, .iadd, 1), (22, .ireturn, 1)] := by decide +kernel
theorem dX6_throughNext_17 : decode cX6_throughNext 17 = .ok (.iload_n 3, 1) := dz_at dqX6_throughNext_p081 0 rfl
theorem dX6_throughNext_18 : decode cX6_throughNext 18 = .ok (.invokevirtual 39, 3) := dz_at dqX6_throughNext_p081 1 rfl
theorem dX6_throughNext_21 : decode cX6_throughNext 21 = .ok (.iadd, 1) := dz_at dqX6_throughNext_p081 2 rfl
theorem dX6_throughNext_22 : decode cX6_throughNext 22 = .ok (.ireturn, 1) := dz_at dqX6_throughNext_p081 3 rfl
set_option maxRecDepth 20000 in
theorem dqX6_toComeAt_p080 : dz_rn 0 (cX6_toComeAt.data.toList.drop 0) [(0, 4), (3, 0), (0, 1), (2, 0), (0, 23), (0, 2), (0, 11), (0, 10), (0, 12)] = some [(0, .aload_n 0, 1), (1, .getfield 21, 3), (4, .iload_n 1, 1), (5, .bipush 8, 2), (7, .imul, 1), (8, .iload_n 2, 1), (9, .iadd, 1), (10, .iaload, 1), (11, .ireturn, 1)] := by decide +kernel
theorem dX6_toComeAt_0 : decode cX6_toComeAt 0 = .ok (.aload_n 0, 1) := dz_at dqX6_toComeAt_p080 0 rfl
theorem dX6_toComeAt_1 : decode cX6_toComeAt 1 = .ok (.getfield 21, 3) := dz_at dqX6_toComeAt_p080 1 rfl
theorem dX6_toComeAt_4 : decode cX6_toComeAt 4 = .ok (.iload_n 1, 1) := dz_at dqX6_toComeAt_p080 2 rfl
theorem dX6_toComeAt_5 : decode cX6_toComeAt 5 = .ok (.bipush 8, 2) := dz_at dqX6_toComeAt_p080 3 rfl
theorem dX6_toComeAt_7 : decode cX6_toComeAt 7 = .ok (.imul, 1) := dz_at dqX6_toComeAt_p080 4 rfl
theorem dX6_toComeAt_8 : decode cX6_toComeAt 8 = .ok (.iload_n 2, 1) := dz_at dqX6_toComeAt_p080 5 rfl
theorem dX6_toComeAt_9 : decode cX6_toComeAt 9 = .ok (.iadd, 1) := dz_at dqX6_toComeAt_p080 6 rfl
theorem dX6_toComeAt_10 : decode cX6_toComeAt 10 = .ok (.iaload, 1) := dz_at dqX6_toComeAt_p080 7 rfl
theorem dX6_toComeAt_11 : decode cX6_toComeAt 11 = .ok (.ireturn, 1) := dz_at dqX6_toComeAt_p080 8 rfl
set_option maxHeartbeats 4000000 in
set_option maxRecDepth 100000 in
theorem k_X6_toComeAt (l : Launch) (dC : Nat → ClassId) (dI : Nat → Nat → Nat) (cI cZ cQ : ClassId) (a : Nat → Nat) (sor : Nat → Int32) (ord : Nat → Int32) (sha : Nat → Int32) (toc : Nat → Int32) (mar : Nat → Int32) (tol : Nat → Int32) (se : Int32) (la : Int32) (r_sor : rg 8 (0) (23) sor) (r_mar : rg 24 (0) (255) mar) (r_tol : rg 8 (0) (23) tol) (q0 : 0 ≤ se.toInt) (q1 : se.toInt ≤ 255) (q2 : 0 ≤ la.toInt) (q3 : la.toInt ≤ 7) : KR l yX6_toComeAt wsX6_toComeAt { frames := 0, cells := 0, slots := 0, locals := 0 } (dC, dI) (TY cI cZ cQ) (wSpe cI cZ cQ a sor ord sha toc mar tol) [.ref (a 23), .int se, .int la] (fun r : Int32 => True) := by
  refine Met.ofW (cc := cX6_toComeAt) (maxL := 3) (ret := (some .int)) (by decide) rfl ?_
  intro p e s m args below meth c s₁ B hml hv
  obtain ⟨rfl, hP, hK, hN⟩ := hv
  have hx := B.exec
  have hb := B.bytes
  have hr := B.returns
  have hts := atoms_spec (ws := wsX6_toComeAt) B.pre
  have hown : s.vm.findClass RX6 = some m.cls := findClass_of_methodNamed B.named
  have hlocks := B.notSynchronized
  have lf21 := hts (.fieldLink RX6 21 "PalaceOfRooms$Speech" "toCome" "[I") (List.mem_cons_of_mem _ (List.mem_append_left _ (List.mem_of_getElem? (i := 0) rfl)))
  have inX6 : ∀ w ∈ wsX60, w ∈ wsX6_toComeAt := fun w h => List.mem_cons_of_mem _ (List.mem_append_right _ h)
  have hl := lv_entry ([.ref (a 23), .int se, .int la]) (n := 3) (Nat.le_of_ble_eq_true rfl)
  rw [lg_entry_eq]
  generalize (lg_sl ([.ref (a 23), .int se, .int la]) ++ List.replicate (3 - (lg_sl ([.ref (a 23), .int se, .int la])).length) Slot.unset).toArray = ls at hl ⊢
  have hl : lv_has ls 3 [(0, .ref (a 23)), (1, .int se), (2, .int la)] := hl
  refine lv_aload_n hx hb dX6_toComeAt_0 rfl (lv_at hl 0 rfl) ?_
  refine va_get (D := (dC, dI)) (ci := 6) (v := .ref (a 27)) (C := RX6) (T := TX6) (N := 5) hx hb hts inX6 hown hK hP 0 rfl rfl 4 (by decide) lf21 (fun _ h9 => h9) rfl dX6_toComeAt_1 ?_
  refine lv_iload_n hx hb dX6_toComeAt_4 rfl (lv_at hl 1 rfl) ?_
  refine lv_bipush (v := 8) hx hb dX6_toComeAt_5 (by decide) ?_
  refine lv_imul hx hb dX6_toComeAt_7 ?_
  have f1 : (se * 8).toInt = (se.toInt) * (8) := mulC rfl (show (8 : Int32).toInt = 8 from rfl) (by omega) (by omega)
  refine lv_iload_n hx hb dX6_toComeAt_8 rfl (lv_at hl 2 rfl) ?_
  refine lv_iadd hx hb dX6_toComeAt_9 ?_
  have f2 : ((se * 8) + la).toInt = ((se.toInt) * (8)) + (la.toInt) := addC f1 rfl (by omega) (by omega)
  have b3 : vp_in ((se * 8) + la) 2048 := inC f2 (by omega) (by omega)
  refine va_iald hx hb hK hP 4 0 rfl rfl b3 dX6_toComeAt_10 ?_
  exact W.iret (v := toc ((se * 8) + la).toNatClampNeg) hx hb hr (fun t ht hW => ⟨toc ((se * 8) + la).toNatClampNeg, rfl, trivial, ht⟩) (fun q h => by cases h) dX6_toComeAt_11
set_option maxHeartbeats 4000000 in
set_option maxRecDepth 100000 in
theorem k_X6_throughNext (l : Launch) (dC : Nat → ClassId) (dI : Nat → Nat → Nat) (cI cZ cQ : ClassId) (a : Nat → Nat) (sor : Nat → Int32) (ord : Nat → Int32) (sha : Nat → Int32) (toc : Nat → Int32) (mar : Nat → Int32) (tol : Nat → Int32) (se : Int32) (la : Int32) (ne : Int32) (r_sor : rg 8 (0) (23) sor) (r_mar : rg 24 (0) (255) mar) (r_tol : rg 8 (0) (23) tol) (q0 : 0 ≤ se.toInt) (q1 : se.toInt ≤ 255) (q2 : 0 ≤ la.toInt) (q3 : la.toInt ≤ 7) (q4 : 0 ≤ ne.toInt) (q5 : ne.toInt ≤ 7) : KR l yX6_throughNext wsX6_throughNext { frames := 1, cells := 0, slots := 0, locals := 22 } (dC, dI) (TY cI cZ cQ) (wSpe cI cZ cQ a sor ord sha toc mar tol) [.ref (a 23), .int se, .int la, .int ne] (fun r : Int32 => True) := by
  refine Met.ofW (cc := cX6_throughNext) (maxL := 4) (ret := (some .int)) (by decide) rfl ?_
  intro p e s m args below meth c s₁ B hml hv
  obtain ⟨rfl, hP, hK, hN⟩ := hv
  have hx := B.exec
  have hb := B.bytes
  have hr := B.returns
  have hts := atoms_spec (ws := wsX6_throughNext) B.pre
  have hown : s.vm.findClass RX6 = some m.cls := findClass_of_methodNamed B.named
  have hlocks := B.notSynchronized
  have lf18 := hts (.fieldLink RX6 18 "PalaceOfRooms$Speech" "shared" "[I") (List.mem_cons_of_mem _ (List.mem_append_left _ (List.mem_of_getElem? (i := 0) rfl)))
  have inX6 : ∀ w ∈ wsX60, w ∈ wsX6_throughNext := fun w h => List.mem_cons_of_mem _ (List.mem_append_right _ h)
  have hl := lv_entry ([.ref (a 23), .int se, .int la, .int ne]) (n := 4) (Nat.le_of_ble_eq_true rfl)
  rw [lg_entry_eq]
  generalize (lg_sl ([.ref (a 23), .int se, .int la, .int ne]) ++ List.replicate (4 - (lg_sl ([.ref (a 23), .int se, .int la, .int ne])).length) Slot.unset).toArray = ls at hl ⊢
  have hl : lv_has ls 4 [(0, .ref (a 23)), (1, .int se), (2, .int la), (3, .int ne)] := hl
  refine lv_aload_n hx hb dX6_throughNext_0 rfl (lv_at hl 0 rfl) ?_
  refine va_get (D := (dC, dI)) (ci := 6) (v := .ref (a 26)) (C := RX6) (T := TX6) (N := 5) hx hb hts inX6 hown hK hP 0 rfl rfl 3 (by decide) lf18 (fun _ h9 => h9) rfl dX6_throughNext_1 ?_
  refine lv_iload_n hx hb dX6_throughNext_4 rfl (lv_at hl 2 rfl) ?_
  refine lv_bipush (v := 8) hx hb dX6_throughNext_5 (by decide) ?_
  refine lv_imul hx hb dX6_throughNext_7 ?_
  have f1 : (la * 8).toInt = (la.toInt) * (8) := mulC rfl (show (8 : Int32).toInt = 8 from rfl) (by omega) (by omega)
  refine lv_iload_n hx hb dX6_throughNext_8 rfl (lv_at hl 3 rfl) ?_
  refine lv_iadd hx hb dX6_throughNext_9 ?_
  have f2 : ((la * 8) + ne).toInt = ((la.toInt) * (8)) + (ne.toInt) := addC f1 rfl (by omega) (by omega)
  have b3 : vp_in ((la * 8) + ne) 64 := inC f2 (by omega) (by omega)
  refine va_iald hx hb hK hP 3 0 rfl rfl b3 dX6_throughNext_10 ?_
  refine lv_aload_n hx hb dX6_throughNext_11 rfl (lv_at hl 0 rfl) ?_
  refine lv_iload_n hx hb dX6_throughNext_12 rfl (lv_at hl 1 rfl) ?_
  refine lv_iconst (v := 1) hx hb dX6_throughNext_13 (by decide) ?_
  refine lv_iload_n hx hb dX6_throughNext_14 rfl (lv_at hl 3 rfl) ?_
  refine lv_ishl hx hb dX6_throughNext_15 ?_
  have f4 : 1 ≤ ((1 : Int32) <<< (ne &&& 31)).toInt ∧ ((1 : Int32) <<< (ne &&& 31)).toInt ≤ 128 := shl1 rfl (by omega) 7 (by omega) (by decide)
  refine lv_ior hx hb dX6_throughNext_16 ?_
  have f5 : 0 ≤ (se ||| ((1 : Int32) <<< (ne &&& 31))).toInt ∧ (se ||| ((1 : Int32) <<< (ne &&& 31))).toInt ≤ 255 := orB rfl rfl 8 (by omega) (by omega) (by omega) (by omega) (by decide)
  refine lv_iload_n hx hb dX6_throughNext_17 rfl (lv_at hl 3 rfl) ?_
  refine rdV (As := [.int (se ||| ((1 : Int32) <<< (ne &&& 31))), .int ne]) (rest := [.int (sha ((la * 8) + ne).toNatClampNeg)]) ⟨hx, hb, hml, hown, hts⟩ (k_X6_toComeAt l dC dI cI cZ cQ a sor ord sha toc mar tol (se ||| ((1 : Int32) <<< (ne &&& 31))) ne r_sor r_mar r_tol (by omega) (by omega) (by omega) (by omega)) (cwV 2 hts gX6_throughNext_X6_toComeAt rfl rfl rfl (by decide +kernel) ⟨Nat.le_of_ble_eq_true rfl, Nat.le_of_ble_eq_true rfl⟩) hP hK hN [0, 1, 2, 3, 4, 5, 6, 7] rfl 0 6 rfl rfl rfl hl.1 rfl (Nat.le_of_ble_eq_true rfl) dX6_throughNext_18 ⟨Nat.le_of_ble_eq_true rfl, Nat.le_of_ble_eq_true rfl⟩ (fun r6 h7 => ?_)
  have h7 : True := h7
  refine lv_iadd hx hb dX6_throughNext_21 ?_
  exact W.iret (v := (sha ((la * 8) + ne).toNatClampNeg) + r6) hx hb hr (fun t ht hW => ⟨(sha ((la * 8) + ne).toNatClampNeg) + r6, rfl, trivial, ht⟩) (fun q h => by cases h) dX6_throughNext_22
set_option maxHeartbeats 4000000 in
set_option maxRecDepth 100000 in
theorem k_X6_bestNext (l : Launch) (dC : Nat → ClassId) (dI : Nat → Nat → Nat) (cI cZ cQ : ClassId) (a : Nat → Nat) (sor : Nat → Int32) (ord : Nat → Int32) (sha : Nat → Int32) (toc : Nat → Int32) (mar : Nat → Int32) (tol : Nat → Int32) (se : Int32) (la : Int32) (n : Int32) (r_sor : rg 8 (0) (23) sor) (r_mar : rg 24 (0) (255) mar) (r_tol : rg 8 (0) (23) tol) (q0 : 0 ≤ se.toInt) (q1 : se.toInt ≤ 255) (q2 : 0 ≤ la.toInt) (q3 : la.toInt ≤ 7) (q4 : 1 ≤ n.toInt) (q5 : n.toInt ≤ 8) : KR l yX6_bestNext wsX6_bestNext { frames := 2, cells := 0, slots := 0, locals := 45 } (dC, dI) (TY cI cZ cQ) (wSpe cI cZ cQ a sor ord sha toc mar tol) [.ref (a 23), .int se, .int la, .int n] (fun r : Int32 => (-1 ≤ r.toInt) ∧ (r.toInt ≤ 7)) := by
  refine Met.ofW (cc := cX6_bestNext) (maxL := 6) (ret := (some .int)) (by decide) rfl ?_
  intro p e s m args below meth c s₁ B hml hv
  obtain ⟨rfl, hP, hK, hN⟩ := hv
  have hx := B.exec
  have hb := B.bytes
  have hr := B.returns
  have hts := atoms_spec (ws := wsX6_bestNext) B.pre
  have hown : s.vm.findClass RX6 = some m.cls := findClass_of_methodNamed B.named
  have hlocks := B.notSynchronized
  have hl := lv_entry ([.ref (a 23), .int se, .int la, .int n]) (n := 6) (Nat.le_of_ble_eq_true rfl)
  rw [lg_entry_eq]
  generalize (lg_sl ([.ref (a 23), .int se, .int la, .int n]) ++ List.replicate (6 - (lg_sl ([.ref (a 23), .int se, .int la, .int n])).length) Slot.unset).toArray = ls at hl ⊢
  have hl : lv_has ls 6 [(0, .ref (a 23)), (1, .int se), (2, .int la), (3, .int n)] := hl
  refine lv_iconst (v := (-1)) hx hb dX6_bestNext_0 (by decide) ?_
  refine lv_istore (lv' := [(4, .int (-1)), (0, .ref (a 23)), (1, .int se), (2, .int la), (3, .int n)]) hx hb dX6_bestNext_1 hl (by decide) rfl (fun ls hl => ?_)
  refine lv_iconst (v := 0) hx hb dX6_bestNext_3 (by decide) ?_
  refine lv_istore (lv' := [(5, .int 0), (4, .int (-1)), (0, .ref (a 23)), (1, .int se), (2, .int la), (3, .int n)]) hx hb dX6_bestNext_4 hl (by decide) rfl (fun ls hl => ?_)
  have L6 : ∀ (nn : Nat) (y6_4 : Int32) (y6_5 : Int32) (ls : Array Slot), (0 ≤ (y6_5.toInt)) → ((y6_5.toInt) ≤ 8) → (-1 ≤ (y6_4.toInt)) → ((y6_4.toInt) ≤ 7) → (8 - (y6_5.toInt)).toNat < nn → lv_has ls 6 [(0, .ref (a 23)), (1, .int se), (2, .int la), (3, .int n), (4, .int y6_4), (5, .int y6_5)] → W p l e (headSpec wsX6_bestNext { frames := 2, cells := 0, slots := 0, locals := 45 }).room s m ([.ref (a 23), .int se, .int la, .int n] : List Value).toArray below meth c s.heap [] 0 0 (MQ below (QR (fun r : Int32 => (-1 ≤ r.toInt) ∧ (r.toInt ≤ 7))) ([.ref (a 23), .int se, .int la, .int n] : List Value).toArray s 0 0 (fun _ => False)) (F0 m 6 ls []) := by
    intro nn
    induction nn with
    | zero =>
      intro y6_4 y6_5 ls i6_0 i6_1 i6_2 i6_3 hm
      exact absurd hm (Nat.not_lt_zero _)
    | succ nn ih6 =>
      intro y6_4 y6_5 ls i6_0 i6_1 i6_2 i6_3 hm hl
      refine lv_iload hx hb dX6_bestNext_6 (lv_at hl 5 rfl) ?_
      refine lv_iload_n hx hb dX6_bestNext_8 rfl (lv_at hl 3 rfl) ?_
      refine lv_icmp_ge (tgt := 56) hx hb dX6_bestNext_9 (by decide) (fun c1 => ?_) (fun c1 => ?_)
      · have dc1 : n.toInt ≤ y6_5.toInt := leC rfl rfl c1
        refine lv_iload hx hb dX6_bestNext_56 (lv_at hl 4 rfl) ?_
        exact W.iret (v := y6_4) hx hb hr (fun t ht hW => ⟨y6_4, rfl, ⟨(show -1 ≤ y6_4.toInt from by omega), (show y6_4.toInt ≤ 7 from by omega)⟩, ht⟩) (fun q h => by cases h) dX6_bestNext_58
      · have dc1 : y6_5.toInt < n.toInt := nleC rfl rfl c1
        refine lv_iload_n hx hb dX6_bestNext_12 rfl (lv_at hl 1 rfl) ?_
        refine lv_iload hx hb dX6_bestNext_13 (lv_at hl 5 rfl) ?_
        refine lv_ishr hx hb dX6_bestNext_15 ?_
        refine lv_iconst (v := 1) hx hb dX6_bestNext_16 (by decide) ?_
        refine lv_iand hx hb dX6_bestNext_17 ?_
        have f2 := andR (a := (se >>> (y6_5 &&& 31))) (m := 1) (M := 1) rfl (by decide)
        refine lv_if_ne (tgt := 50) hx hb dX6_bestNext_18 (by decide) (fun c3 => ?_) (fun c3 => ?_)
        · have dc3 : ((se >>> (y6_5 &&& 31)) &&& 1).toInt ≠ 0 := neC rfl (show (0 : Int32).toInt = 0 from rfl) c3
          obtain ⟨z4, ez4⟩ : ∃ y : Int32, y = y6_5 + 1 := ⟨_, rfl⟩
          have iz4 : z4.toInt = y6_5.toInt + 1 := by rw [ez4]; exact addC rfl rfl (by omega) (by omega)
          refine lv_iinc (v := z4) (lv' := [(5, .int z4), (0, .ref (a 23)), (1, .int se), (2, .int la), (3, .int n), (4, .int y6_4)]) hx hb dX6_bestNext_50 hl (k := 5) rfl (by rw [ez4]; rfl) (by decide) rfl (fun ls hl => ?_)
          refine lv_goto (tgt := 6) hx hb dX6_bestNext_53 (by decide) ?_
          exact ih6 y6_4 z4 _ (by omega) (by omega) (by omega) (by omega) (by omega) (lv_sub hl [1, 2, 3, 4, 5, 0] rfl)
        · have dc3 : ((se >>> (y6_5 &&& 31)) &&& 1).toInt = 0 := eqC rfl (show (0 : Int32).toInt = 0 from rfl) c3
          refine lv_iload hx hb dX6_bestNext_21 (lv_at hl 4 rfl) ?_
          refine lv_iconst (v := (-1)) hx hb dX6_bestNext_23 (by decide) ?_
          refine lv_icmp_eq (tgt := 46) hx hb dX6_bestNext_24 (by decide) (fun c5 => ?_) (fun c5 => ?_)
          · have dc5 : y6_4.toInt = (-1) := eqC rfl (show ((-1) : Int32).toInt = (-1) from rfl) c5
            refine lv_iload hx hb dX6_bestNext_46 (lv_at hl 5 rfl) ?_
            refine lv_istore (lv' := [(4, .int y6_5), (0, .ref (a 23)), (1, .int se), (2, .int la), (3, .int n), (5, .int y6_5)]) hx hb dX6_bestNext_48 hl (by decide) rfl (fun ls hl => ?_)
            obtain ⟨z6, ez6⟩ : ∃ y : Int32, y = y6_5 + 1 := ⟨_, rfl⟩
            have iz6 : z6.toInt = y6_5.toInt + 1 := by rw [ez6]; exact addC rfl rfl (by omega) (by omega)
            refine lv_iinc (v := z6) (lv' := [(5, .int z6), (4, .int y6_5), (0, .ref (a 23)), (1, .int se), (2, .int la), (3, .int n)]) hx hb dX6_bestNext_50 hl (k := 5) rfl (by rw [ez6]; rfl) (by decide) rfl (fun ls hl => ?_)
            refine lv_goto (tgt := 6) hx hb dX6_bestNext_53 (by decide) ?_
            exact ih6 y6_5 z6 _ (by omega) (by omega) (by omega) (by omega) (by omega) (lv_sub hl [2, 3, 4, 5, 1, 0] rfl)
          · have dc5 : y6_4.toInt ≠ (-1) := neC rfl (show ((-1) : Int32).toInt = (-1) from rfl) c5
            refine lv_aload_n hx hb dX6_bestNext_27 rfl (lv_at hl 0 rfl) ?_
            refine lv_iload_n hx hb dX6_bestNext_28 rfl (lv_at hl 1 rfl) ?_
            refine lv_iload_n hx hb dX6_bestNext_29 rfl (lv_at hl 2 rfl) ?_
            refine lv_iload hx hb dX6_bestNext_30 (lv_at hl 5 rfl) ?_
            refine rdV (As := [.int se, .int la, .int y6_5]) (rest := []) ⟨hx, hb, hml, hown, hts⟩ (k_X6_throughNext l dC dI cI cZ cQ a sor ord sha toc mar tol se la y6_5 r_sor r_mar r_tol (by omega) (by omega) (by omega) (by omega) (by omega) (by omega)) (cwV 3 hts gX6_bestNext_X6_throughNext rfl rfl rfl (by decide +kernel) ⟨Nat.le_of_ble_eq_true rfl, Nat.le_of_ble_eq_true rfl⟩) hP hK hN [0, 1, 2, 3, 4, 5, 6, 7] rfl 0 6 rfl rfl rfl hl.1 rfl (Nat.le_of_ble_eq_true rfl) dX6_bestNext_32 ⟨Nat.le_of_ble_eq_true rfl, Nat.le_of_ble_eq_true rfl⟩ (fun r7 h8 => ?_)
            have h8 : True := h8
            refine lv_aload_n hx hb dX6_bestNext_35 rfl (lv_at hl 0 rfl) ?_
            refine lv_iload_n hx hb dX6_bestNext_36 rfl (lv_at hl 1 rfl) ?_
            refine lv_iload_n hx hb dX6_bestNext_37 rfl (lv_at hl 2 rfl) ?_
            refine lv_iload hx hb dX6_bestNext_38 (lv_at hl 4 rfl) ?_
            refine rdV (As := [.int se, .int la, .int y6_4]) (rest := [.int r7]) ⟨hx, hb, hml, hown, hts⟩ (k_X6_throughNext l dC dI cI cZ cQ a sor ord sha toc mar tol se la y6_4 r_sor r_mar r_tol (by omega) (by omega) (by omega) (by omega) (by omega) (by omega)) (cwV 3 hts gX6_bestNext_X6_throughNext rfl rfl rfl (by decide +kernel) ⟨Nat.le_of_ble_eq_true rfl, Nat.le_of_ble_eq_true rfl⟩) hP hK hN [0, 1, 2, 3, 4, 5, 6, 7] rfl 0 6 rfl rfl rfl hl.1 rfl (Nat.le_of_ble_eq_true rfl) dX6_bestNext_40 ⟨Nat.le_of_ble_eq_true rfl, Nat.le_of_ble_eq_true rfl⟩ (fun r9 h10 => ?_)
            have h10 : True := h10
            refine lv_icmp_ge (tgt := 50) hx hb dX6_bestNext_43 (by decide) (fun c11 => ?_) (fun c11 => ?_)
            · have dc11 : r9.toInt ≤ r7.toInt := leC rfl rfl c11
              obtain ⟨z12, ez12⟩ : ∃ y : Int32, y = y6_5 + 1 := ⟨_, rfl⟩
              have iz12 : z12.toInt = y6_5.toInt + 1 := by rw [ez12]; exact addC rfl rfl (by omega) (by omega)
              refine lv_iinc (v := z12) (lv' := [(5, .int z12), (0, .ref (a 23)), (1, .int se), (2, .int la), (3, .int n), (4, .int y6_4)]) hx hb dX6_bestNext_50 hl (k := 5) rfl (by rw [ez12]; rfl) (by decide) rfl (fun ls hl => ?_)
              refine lv_goto (tgt := 6) hx hb dX6_bestNext_53 (by decide) ?_
              exact ih6 y6_4 z12 _ (by omega) (by omega) (by omega) (by omega) (by omega) (lv_sub hl [1, 2, 3, 4, 5, 0] rfl)
            · have dc11 : r7.toInt < r9.toInt := nleC rfl rfl c11
              refine lv_iload hx hb dX6_bestNext_46 (lv_at hl 5 rfl) ?_
              refine lv_istore (lv' := [(4, .int y6_5), (0, .ref (a 23)), (1, .int se), (2, .int la), (3, .int n), (5, .int y6_5)]) hx hb dX6_bestNext_48 hl (by decide) rfl (fun ls hl => ?_)
              obtain ⟨z13, ez13⟩ : ∃ y : Int32, y = y6_5 + 1 := ⟨_, rfl⟩
              have iz13 : z13.toInt = y6_5.toInt + 1 := by rw [ez13]; exact addC rfl rfl (by omega) (by omega)
              refine lv_iinc (v := z13) (lv' := [(5, .int z13), (4, .int y6_5), (0, .ref (a 23)), (1, .int se), (2, .int la), (3, .int n)]) hx hb dX6_bestNext_50 hl (k := 5) rfl (by rw [ez13]; rfl) (by decide) rfl (fun ls hl => ?_)
              refine lv_goto (tgt := 6) hx hb dX6_bestNext_53 (by decide) ?_
              exact ih6 y6_5 z13 _ (by omega) (by omega) (by omega) (by omega) (by omega) (lv_sub hl [2, 3, 4, 5, 1, 0] rfl)
  have kc14 : ((-1) : Int32).toInt = -1 := rfl
  have kc15 : (0 : Int32).toInt = 0 := rfl
  exact L6 _ (-1) 0 _ (by omega) (by omega) (by omega) (by omega) (Nat.lt_succ_self _) (lv_sub hl [2, 3, 4, 5, 1, 0] rfl)
set_option maxHeartbeats 4000000 in
set_option maxRecDepth 100000 in
theorem k_X6_follow (l : Launch) (dC : Nat → ClassId) (dI : Nat → Nat → Nat) (cI cZ cQ : ClassId) (a : Nat → Nat) (sor : Nat → Int32) (ord : Nat → Int32) (sha : Nat → Int32) (toc : Nat → Int32) (mar : Nat → Int32) (tol : Nat → Int32) (sz : Nat) (fi : Int32) (n : Int32) (r_sor : rg 8 (0) (23) sor) (r_mar : rg 24 (0) (255) mar) (r_tol : rg 8 (0) (23) tol) (q0 : 0 ≤ fi.toInt) (q1 : fi.toInt ≤ 7) (q2 : 1 ≤ n.toInt) (q3 : n.toInt ≤ 8) : KV l yX6_follow wsX6_follow { frames := 3, cells := 0, slots := 0, locals := 70 } (dC, dI) (TY cI cZ cQ) (wSpe cI cZ cQ a sor ord sha toc mar tol) [.ref (a 23), .int fi, .int n] sz 0 0 (fun (u : US) => True) (fun u : US => (wSpe cI cZ cQ a sor (u.1 0) sha toc mar tol)) := by
  refine Met.ofW (cc := cX6_follow) (maxL := 7) (ret := none) (by decide) rfl ?_
  intro p e s m args below meth c s₁ B hml hv
  obtain ⟨rfl, hsz, hP, hK, hD0, hN⟩ := hv
  have hx := B.exec
  have hb := B.bytes
  have hr := B.returns
  have hts := atoms_spec (ws := wsX6_follow) B.pre
  have hown : s.vm.findClass RX6 = some m.cls := findClass_of_methodNamed B.named
  have hlocks := B.notSynchronized
  have lf15 := hts (.fieldLink RX6 15 "PalaceOfRooms$Speech" "order" "[I") (List.mem_cons_of_mem _ (List.mem_append_left _ (List.mem_of_getElem? (i := 0) rfl)))
  have inX6 : ∀ w ∈ wsX60, w ∈ wsX6_follow := fun w h => List.mem_cons_of_mem _ (List.mem_append_right _ h)
  have lf9 := hts (.fieldLink RX6 9 "PalaceOfRooms$Speech" "sorted" "[I") (List.mem_cons_of_mem _ (List.mem_append_left _ (List.mem_of_getElem? (i := 1) rfl)))
  subst hsz
  have hD := hD0.self (sz := s.heap.size)
  generalize hAe : va_A (wSpe cI cZ cQ a sor ord sha toc mar tol) s.heap.size = A at hD ⊢
  have hA : ∀ q : Nat, s.heap.size ≤ q → A q := fun q h => by rw [← hAe]; exact Or.inr h
  have hS : va_S A s.heap s.heap [] := va_S.rf
  have hl := lv_entry ([.ref (a 23), .int fi, .int n]) (n := 7) (Nat.le_of_ble_eq_true rfl)
  rw [lg_entry_eq]
  generalize (lg_sl ([.ref (a 23), .int fi, .int n]) ++ List.replicate (7 - (lg_sl ([.ref (a 23), .int fi, .int n])).length) Slot.unset).toArray = ls at hl ⊢
  have hl : lv_has ls 7 [(0, .ref (a 23)), (1, .int fi), (2, .int n)] := hl
  refine lv_iload_n hx hb dX6_follow_0 rfl (lv_at hl 1 rfl) ?_
  refine lv_istore_n (lv' := [(3, .int fi), (0, .ref (a 23)), (1, .int fi), (2, .int n)]) hx hb dX6_follow_1 rfl hl (by decide) rfl (fun ls hl => ?_)
  refine lv_iconst (v := 1) hx hb dX6_follow_2 (by decide) ?_
  refine lv_iload_n hx hb dX6_follow_3 rfl (lv_at hl 2 rfl) ?_
  refine lv_ishl hx hb dX6_follow_4 ?_
  have f1 : 1 ≤ ((1 : Int32) <<< (fi &&& 31)).toInt ∧ ((1 : Int32) <<< (fi &&& 31)).toInt ≤ 128 := shl1 rfl (by omega) 7 (by omega) (by decide)
  refine lv_topi (fun x2 ex2 => ?_)
  have ix2 : x2.toInt = ((1 : Int32) <<< (fi &&& 31)).toInt := by rw [ex2]
  refine lv_istore (lv' := [(4, .int x2), (3, .int fi), (0, .ref (a 23)), (1, .int fi), (2, .int n)]) hx hb dX6_follow_5 hl (by decide) rfl (fun ls hl => ?_)
  refine lv_aload_n hx hb dX6_follow_7 rfl (lv_at hl 2 rfl) ?_
  refine va_get (D := (dC, dI)) (ci := 6) (v := .ref (a 25)) (C := RX6) (T := TX6) (N := 5) hx hb hts inX6 hown hK hP 0 rfl rfl 2 (by decide) lf15 (fun _ h9 => h9) rfl dX6_follow_8 ?_
  refine lv_iconst (v := 0) hx hb dX6_follow_11 (by decide) ?_
  refine lv_aload_n hx hb dX6_follow_12 rfl (lv_at hl 2 rfl) ?_
  refine va_get (D := (dC, dI)) (ci := 6) (v := .ref (a 24)) (C := RX6) (T := TX6) (N := 5) hx hb hts inX6 hown hK hP 0 rfl rfl 1 (by decide) lf9 (fun _ h9 => h9) rfl dX6_follow_13 ?_
  refine lv_iload_n hx hb dX6_follow_16 rfl (lv_at hl 3 rfl) ?_
  have b3 : vp_in fi 8 := inC rfl (by omega) (by omega)
  refine va_iald hx hb hK hP 1 0 rfl rfl b3 dX6_follow_17 ?_
  have g4 : 0 ≤ (sor fi.toNatClampNeg).toInt ∧ (sor fi.toNatClampNeg).toInt ≤ 23 := rg_at r_sor b3
  refine lv_topi (fun x5 ex5 => ?_)
  have ix5 : x5.toInt = (sor fi.toNatClampNeg).toInt := by rw [ex5]
  have b6 : vp_in 0 8 := (show ¬ _ from by decide)
  refine va_iast hx hb hK hP hD hS 2 0 rfl rfl b6 dX6_follow_18 (fun H locs hP hD hS => ?_)
  obtain ⟨ord_u7, eord_u7⟩ : ∃ f : Nat → Int32, f = upd ord (0 : Int32).toNatClampNeg x5 := ⟨_, rfl⟩
  have hP : va_P (dC, dI) vwCl (wSpe cI cZ cQ a sor ord_u7 sha toc mar tol) H := by rw [eord_u7]; exact hP
  have hD : va_D A (wSpe cI cZ cQ a sor ord_u7 sha toc mar tol) := by rw [eord_u7]; exact hD
  refine lv_iconst (v := 1) hx hb dX6_follow_19 (by decide) ?_
  refine lv_istore (lv' := [(5, .int 1), (4, .int x2), (3, .int fi), (0, .ref (a 23)), (1, .int fi), (2, .int n)]) hx hb dX6_follow_20 hl (by decide) rfl (fun ls hl => ?_)
  have L22 : ∀ (nn : Nat) (y22_3 : Int32) (y22_4 : Int32) (y22_5 : Int32) (ord_22 : Nat → Int32) (H : Heap) (locs : List Loc) (ls : Array Slot), (1 ≤ (y22_5.toInt)) → ((y22_5.toInt) ≤ 8) → (0 ≤ (y22_3.toInt)) → ((y22_3.toInt) ≤ 7) → (0 ≤ (y22_4.toInt)) → ((y22_4.toInt) ≤ 255) → (8 - (y22_5.toInt)).toNat < nn → va_P (dC, dI) vwCl (wSpe cI cZ cQ a sor ord_22 sha toc mar tol) H → va_D A (wSpe cI cZ cQ a sor ord_22 sha toc mar tol) → va_S A s.heap H locs → lv_has ls 7 [(0, .ref (a 23)), (2, .int n), (3, .int y22_3), (4, .int y22_4), (5, .int y22_5)] → W p l e (headSpec wsX6_follow { frames := 3, cells := 0, slots := 0, locals := 70 }).room s m ([.ref (a 23), .int fi, .int n] : List Value).toArray below meth c H locs 0 0 (MQ below (va_Qv (fun (u : US) => True) (Bw (dC, dI) A (fun u : US => (wSpe cI cZ cQ a sor (u.1 0) sha toc mar tol))) A) ([.ref (a 23), .int fi, .int n] : List Value).toArray s 0 0 A) (F0 m 22 ls []) := by
    intro nn
    induction nn with
    | zero =>
      intro y22_3 y22_4 y22_5 ord_22 H locs ls i22_0 i22_1 i22_2 i22_3 i22_4 i22_5 hm
      exact absurd hm (Nat.not_lt_zero _)
    | succ nn ih22 =>
      intro y22_3 y22_4 y22_5 ord_22 H locs ls i22_0 i22_1 i22_2 i22_3 i22_4 i22_5 hm hP hD hS hl
      refine lv_iload hx hb dX6_follow_22 (lv_at hl 4 rfl) ?_
      refine lv_iload_n hx hb dX6_follow_24 rfl (lv_at hl 1 rfl) ?_
      refine lv_icmp_ge (tgt := 77) hx hb dX6_follow_25 (by decide) (fun c8 => ?_) (fun c8 => ?_)
      · have dc8 : n.toInt ≤ y22_5.toInt := leC rfl rfl c8
        exact W.vret hx hb hr (fun t ht hW => ⟨⟨(uS [ord_22] 0 (fun _ => 0)), rfl, trivial, by rw [ht]; exact hP, hD⟩, hS.F ht⟩) hS.2.2 dX6_follow_77
      · have dc8 : y22_5.toInt < n.toInt := nleC rfl rfl c8
        refine lv_aload_n hx hb dX6_follow_28 rfl (lv_at hl 0 rfl) ?_
        refine lv_iload hx hb dX6_follow_29 (lv_at hl 3 rfl) ?_
        refine lv_iload_n hx hb dX6_follow_31 rfl (lv_at hl 2 rfl) ?_
        refine lv_iload_n hx hb dX6_follow_32 rfl (lv_at hl 1 rfl) ?_
        refine rdV (As := [.int y22_4, .int y22_3, .int n]) (rest := []) ⟨hx, hb, hml, hown, hts⟩ (k_X6_bestNext l dC dI cI cZ cQ a sor ord_22 sha toc mar tol y22_4 y22_3 n r_sor r_mar r_tol (by omega) (by omega) (by omega) (by omega) (by omega) (by omega)) (cwV 3 hts gX6_follow_X6_bestNext rfl rfl rfl (by decide +kernel) ⟨Nat.le_of_ble_eq_true rfl, Nat.le_of_ble_eq_true rfl⟩) hP hK hN [0, 1, 2, 3, 4, 5, 6, 7] rfl 0 6 rfl rfl rfl hl.1 rfl (Nat.le_of_ble_eq_true rfl) dX6_follow_33 ⟨Nat.le_of_ble_eq_true rfl, Nat.le_of_ble_eq_true rfl⟩ (fun r9 h10 => ?_)
        have h10 : (-1 ≤ r9.toInt) ∧ (r9.toInt ≤ 7) := h10
        obtain ⟨h10_0, h10_1⟩ := h10
        refine lv_istore (lv' := [(6, .int r9), (0, .ref (a 23)), (2, .int n), (3, .int y22_3), (4, .int y22_4), (5, .int y22_5)]) hx hb dX6_follow_36 hl (by decide) rfl (fun ls hl => ?_)
        refine lv_iload hx hb dX6_follow_38 (lv_at hl 0 rfl) ?_
        refine lv_iconst (v := (-1)) hx hb dX6_follow_40 (by decide) ?_
        refine lv_icmp_ne (tgt := 45) hx hb dX6_follow_41 (by decide) (fun c11 => ?_) (fun c11 => ?_)
        · have dc11 : r9.toInt ≠ (-1) := neC rfl (show ((-1) : Int32).toInt = (-1) from rfl) c11
          refine lv_aload_n hx hb dX6_follow_45 rfl (lv_at hl 1 rfl) ?_
          refine va_get (D := (dC, dI)) (ci := 6) (v := .ref (a 25)) (C := RX6) (T := TX6) (N := 5) hx hb hts inX6 hown hK hP 0 rfl rfl 2 (by decide) lf15 (fun _ h9 => h9) rfl dX6_follow_46 ?_
          refine lv_iload hx hb dX6_follow_49 (lv_at hl 5 rfl) ?_
          refine lv_aload_n hx hb dX6_follow_51 rfl (lv_at hl 1 rfl) ?_
          refine va_get (D := (dC, dI)) (ci := 6) (v := .ref (a 24)) (C := RX6) (T := TX6) (N := 5) hx hb hts inX6 hown hK hP 0 rfl rfl 1 (by decide) lf9 (fun _ h9 => h9) rfl dX6_follow_52 ?_
          refine lv_iload hx hb dX6_follow_55 (lv_at hl 0 rfl) ?_
          have b12 : vp_in r9 8 := inC rfl (by omega) (by omega)
          refine va_iald hx hb hK hP 1 0 rfl rfl b12 dX6_follow_57 ?_
          have g13 : 0 ≤ (sor r9.toNatClampNeg).toInt ∧ (sor r9.toNatClampNeg).toInt ≤ 23 := rg_at r_sor b12
          refine lv_topi (fun x14 ex14 => ?_)
          have ix14 : x14.toInt = (sor r9.toNatClampNeg).toInt := by rw [ex14]
          have b15 : vp_in y22_5 8 := inC rfl (by omega) (by omega)
          refine va_iast hx hb hK hP hD hS 2 0 rfl rfl b15 dX6_follow_58 (fun H locs hP hD hS => ?_)
          obtain ⟨ord_u16, eord_u16⟩ : ∃ f : Nat → Int32, f = upd ord_22 y22_5.toNatClampNeg x14 := ⟨_, rfl⟩
          have hP : va_P (dC, dI) vwCl (wSpe cI cZ cQ a sor ord_u16 sha toc mar tol) H := by rw [eord_u16]; exact hP
          have hD : va_D A (wSpe cI cZ cQ a sor ord_u16 sha toc mar tol) := by rw [eord_u16]; exact hD
          refine lv_iload hx hb dX6_follow_59 (lv_at hl 4 rfl) ?_
          refine lv_iconst (v := 1) hx hb dX6_follow_61 (by decide) ?_
          refine lv_iload hx hb dX6_follow_62 (lv_at hl 0 rfl) ?_
          refine lv_ishl hx hb dX6_follow_64 ?_
          have f17 : 1 ≤ ((1 : Int32) <<< (r9 &&& 31)).toInt ∧ ((1 : Int32) <<< (r9 &&& 31)).toInt ≤ 128 := shl1 rfl (by omega) 7 (by omega) (by decide)
          refine lv_ior hx hb dX6_follow_65 ?_
          have f18 : 0 ≤ (y22_4 ||| ((1 : Int32) <<< (r9 &&& 31))).toInt ∧ (y22_4 ||| ((1 : Int32) <<< (r9 &&& 31))).toInt ≤ 255 := orB rfl rfl 8 (by omega) (by omega) (by omega) (by omega) (by decide)
          refine lv_topi (fun x19 ex19 => ?_)
          have ix19 : x19.toInt = (y22_4 ||| ((1 : Int32) <<< (r9 &&& 31))).toInt := by rw [ex19]
          refine lv_istore (lv' := [(4, .int x19), (6, .int r9), (0, .ref (a 23)), (2, .int n), (3, .int y22_3), (5, .int y22_5)]) hx hb dX6_follow_66 hl (by decide) rfl (fun ls hl => ?_)
          refine lv_iload hx hb dX6_follow_68 (lv_at hl 1 rfl) ?_
          refine lv_istore_n (lv' := [(3, .int r9), (4, .int x19), (6, .int r9), (0, .ref (a 23)), (2, .int n), (5, .int y22_5)]) hx hb dX6_follow_70 rfl hl (by decide) rfl (fun ls hl => ?_)
          obtain ⟨z20, ez20⟩ : ∃ y : Int32, y = y22_5 + 1 := ⟨_, rfl⟩
          have iz20 : z20.toInt = y22_5.toInt + 1 := by rw [ez20]; exact addC rfl rfl (by omega) (by omega)
          refine lv_iinc (v := z20) (lv' := [(5, .int z20), (3, .int r9), (4, .int x19), (6, .int r9), (0, .ref (a 23)), (2, .int n)]) hx hb dX6_follow_71 hl (k := 5) rfl (by rw [ez20]; rfl) (by decide) rfl (fun ls hl => ?_)
          refine lv_goto (tgt := 22) hx hb dX6_follow_74 (by decide) ?_
          exact ih22 r9 x19 z20 ord_u16 _ _ _ (by omega) (by omega) (by omega) (by omega) (by omega) (by omega) (by omega) hP hD hS (lv_sub hl [4, 5, 1, 2, 0] rfl)
        · have dc11 : r9.toInt = (-1) := eqC rfl (show ((-1) : Int32).toInt = (-1) from rfl) c11
          exact W.vret hx hb hr (fun t ht hW => ⟨⟨(uS [ord_22] 0 (fun _ => 0)), rfl, trivial, by rw [ht]; exact hP, hD⟩, hS.F ht⟩) hS.2.2 dX6_follow_44
  have kc21 : (1 : Int32).toInt = 1 := rfl
  exact L22 _ fi x2 1 ord_u7 _ _ _ (by omega) (by omega) (by omega) (by omega) (by omega) (by omega) (Nat.lt_succ_self _) hP hD hS (lv_sub hl [3, 5, 2, 1, 0] rfl)
set_option maxHeartbeats 4000000 in
set_option maxRecDepth 100000 in
theorem k_X6_reckonToCome (l : Launch) (dC : Nat → ClassId) (dI : Nat → Nat → Nat) (cI cZ cQ : ClassId) (a : Nat → Nat) (sor : Nat → Int32) (ord : Nat → Int32) (sha : Nat → Int32) (toc : Nat → Int32) (mar : Nat → Int32) (tol : Nat → Int32) (sz : Nat) (n : Int32) (r_sor : rg 8 (0) (23) sor) (r_mar : rg 24 (0) (255) mar) (r_tol : rg 8 (0) (23) tol) (q0 : 1 ≤ n.toInt) (q1 : n.toInt ≤ 8) : KV l yX6_reckonToCome wsX6_reckonToCome { frames := 3, cells := 0, slots := 0, locals := 70 } (dC, dI) (TY cI cZ cQ) (wSpe cI cZ cQ a sor ord sha toc mar tol) [.ref (a 23), .int n] sz 0 0 (fun (u : US) => True) (fun u : US => (wSpe cI cZ cQ a sor ord sha (u.1 0) mar tol)) := by
  refine Met.ofW (cc := cX6_reckonToCome) (maxL := 6) (ret := none) (by decide) rfl ?_
  intro p e s m args below meth c s₁ B hml hv
  obtain ⟨rfl, hsz, hP, hK, hD0, hN⟩ := hv
  have hx := B.exec
  have hb := B.bytes
  have hr := B.returns
  have hts := atoms_spec (ws := wsX6_reckonToCome) B.pre
  have hown : s.vm.findClass RX6 = some m.cls := findClass_of_methodNamed B.named
  have hlocks := B.notSynchronized
  have lf21 := hts (.fieldLink RX6 21 "PalaceOfRooms$Speech" "toCome" "[I") (List.mem_cons_of_mem _ (List.mem_append_left _ (List.mem_of_getElem? (i := 0) rfl)))
  have inX6 : ∀ w ∈ wsX60, w ∈ wsX6_reckonToCome := fun w h => List.mem_cons_of_mem _ (List.mem_append_right _ h)
  subst hsz
  have hD := hD0.self (sz := s.heap.size)
  generalize hAe : va_A (wSpe cI cZ cQ a sor ord sha toc mar tol) s.heap.size = A at hD ⊢
  have hA : ∀ q : Nat, s.heap.size ≤ q → A q := fun q h => by rw [← hAe]; exact Or.inr h
  have hS : va_S A s.heap s.heap [] := va_S.rf
  have hl := lv_entry ([.ref (a 23), .int n]) (n := 6) (Nat.le_of_ble_eq_true rfl)
  rw [lg_entry_eq]
  generalize (lg_sl ([.ref (a 23), .int n]) ++ List.replicate (6 - (lg_sl ([.ref (a 23), .int n])).length) Slot.unset).toArray = ls at hl ⊢
  have hl : lv_has ls 6 [(0, .ref (a 23)), (1, .int n)] := hl
  refine lv_iconst (v := 1) hx hb dX6_reckonToCome_0 (by decide) ?_
  refine lv_iload_n hx hb dX6_reckonToCome_1 rfl (lv_at hl 1 rfl) ?_
  refine lv_ishl hx hb dX6_reckonToCome_2 ?_
  have f1 : 1 ≤ ((1 : Int32) <<< (n &&& 31)).toInt ∧ ((1 : Int32) <<< (n &&& 31)).toInt ≤ 256 := shl1 rfl (by omega) 8 (by omega) (by decide)
  refine lv_iconst (v := 1) hx hb dX6_reckonToCome_3 (by decide) ?_
  refine lv_isub hx hb dX6_reckonToCome_4 ?_
  have f2 : (((1 : Int32) <<< (n &&& 31)) - 1).toInt = (((1 : Int32) <<< (n &&& 31)).toInt) - (1) := subC rfl (show (1 : Int32).toInt = 1 from rfl) (by omega) (by omega)
  refine lv_topi (fun x3 ex3 => ?_)
  have ix3 : x3.toInt = (((1 : Int32) <<< (n &&& 31)).toInt) - (1) := by rw [ex3]; exact f2
  refine lv_istore_n (lv' := [(2, .int x3), (0, .ref (a 23)), (1, .int n)]) hx hb dX6_reckonToCome_5 rfl hl (by decide) rfl (fun ls hl => ?_)
  refine lv_iload_n hx hb dX6_reckonToCome_6 rfl (lv_at hl 0 rfl) ?_
  refine lv_istore_n (lv' := [(3, .int x3), (2, .int x3), (0, .ref (a 23)), (1, .int n)]) hx hb dX6_reckonToCome_7 rfl hl (by decide) rfl (fun ls hl => ?_)
  have L8 : ∀ (nn : Nat) (y8_3 : Int32) (toc_8 : Nat → Int32) (H : Heap) (locs : List Loc) (ls : Array Slot), (0 ≤ (y8_3.toInt)) → ((y8_3.toInt) ≤ 255) → ((y8_3.toInt)).toNat < nn → va_P (dC, dI) vwCl (wSpe cI cZ cQ a sor ord sha toc_8 mar tol) H → va_D A (wSpe cI cZ cQ a sor ord sha toc_8 mar tol) → va_S A s.heap H locs → lv_has ls 6 [(0, .ref (a 23)), (1, .int n), (3, .int y8_3)] → W p l e (headSpec wsX6_reckonToCome { frames := 3, cells := 0, slots := 0, locals := 70 }).room s m ([.ref (a 23), .int n] : List Value).toArray below meth c H locs 0 0 (MQ below (va_Qv (fun (u : US) => True) (Bw (dC, dI) A (fun u : US => (wSpe cI cZ cQ a sor ord sha (u.1 0) mar tol))) A) ([.ref (a 23), .int n] : List Value).toArray s 0 0 A) (F0 m 8 ls []) := by
    intro nn
    induction nn with
    | zero =>
      intro y8_3 toc_8 H locs ls i8_0 i8_1 hm
      exact absurd hm (Nat.not_lt_zero _)
    | succ nn ih8 =>
      intro y8_3 toc_8 H locs ls i8_0 i8_1 hm hP hD hS hl
      refine lv_iload_n hx hb dX6_reckonToCome_8 rfl (lv_at hl 2 rfl) ?_
      refine lv_if_le (tgt := 84) hx hb dX6_reckonToCome_9 (by decide) (fun c4 => ?_) (fun c4 => ?_)
      · have dc4 : y8_3.toInt ≤ 0 := leC rfl (show (0 : Int32).toInt = 0 from rfl) c4
        exact W.vret hx hb hr (fun t ht hW => ⟨⟨(uS [toc_8] 0 (fun _ => 0)), rfl, trivial, by rw [ht]; exact hP, hD⟩, hS.F ht⟩) hS.2.2 dX6_reckonToCome_84
      · have dc4 : 0 < y8_3.toInt := nleC rfl (show (0 : Int32).toInt = 0 from rfl) c4
        refine lv_iconst (v := 0) hx hb dX6_reckonToCome_12 (by decide) ?_
        refine lv_istore (lv' := [(4, .int 0), (0, .ref (a 23)), (1, .int n), (3, .int y8_3)]) hx hb dX6_reckonToCome_13 hl (by decide) rfl (fun ls hl => ?_)
        have L15 : ∀ (nn : Nat) (y15_4 : Int32) (toc_15 : Nat → Int32) (H : Heap) (locs : List Loc) (ls : Array Slot), (0 ≤ (y15_4.toInt)) → ((y15_4.toInt) ≤ 8) → (8 - (y15_4.toInt)).toNat < nn → va_P (dC, dI) vwCl (wSpe cI cZ cQ a sor ord sha toc_15 mar tol) H → va_D A (wSpe cI cZ cQ a sor ord sha toc_15 mar tol) → va_S A s.heap H locs → lv_has ls 6 [(0, .ref (a 23)), (1, .int n), (3, .int y8_3), (4, .int y15_4)] → W p l e (headSpec wsX6_reckonToCome { frames := 3, cells := 0, slots := 0, locals := 70 }).room s m ([.ref (a 23), .int n] : List Value).toArray below meth c H locs 0 0 (MQ below (va_Qv (fun (u : US) => True) (Bw (dC, dI) A (fun u : US => (wSpe cI cZ cQ a sor ord sha (u.1 0) mar tol))) A) ([.ref (a 23), .int n] : List Value).toArray s 0 0 A) (F0 m 15 ls []) := by
          intro nn
          induction nn with
          | zero =>
            intro y15_4 toc_15 H locs ls i15_0 i15_1 hm
            exact absurd hm (Nat.not_lt_zero _)
          | succ nn ih15 =>
            intro y15_4 toc_15 H locs ls i15_0 i15_1 hm hP hD hS hl
            refine lv_iload hx hb dX6_reckonToCome_15 (lv_at hl 3 rfl) ?_
            refine lv_iload_n hx hb dX6_reckonToCome_17 rfl (lv_at hl 1 rfl) ?_
            refine lv_icmp_ge (tgt := 78) hx hb dX6_reckonToCome_18 (by decide) (fun c5 => ?_) (fun c5 => ?_)
            · have dc5 : n.toInt ≤ y15_4.toInt := leC rfl rfl c5
              obtain ⟨z6, ez6⟩ : ∃ y : Int32, y = y8_3 + (-1) := ⟨_, rfl⟩
              have iz6 : z6.toInt = y8_3.toInt + (-1) := by rw [ez6]; exact addC rfl rfl (by omega) (by omega)
              refine lv_iinc (v := z6) (lv' := [(3, .int z6), (0, .ref (a 23)), (1, .int n), (4, .int y15_4)]) hx hb dX6_reckonToCome_78 hl (k := 2) rfl (by rw [ez6]; rfl) (by decide) rfl (fun ls hl => ?_)
              refine lv_goto (tgt := 8) hx hb dX6_reckonToCome_81 (by decide) ?_
              exact ih8 z6 toc_15 _ _ _ (by omega) (by omega) (by omega) hP hD hS (lv_sub hl [1, 2, 0] rfl)
            · have dc5 : y15_4.toInt < n.toInt := nleC rfl rfl c5
              refine lv_iload_n hx hb dX6_reckonToCome_21 rfl (lv_at hl 2 rfl) ?_
              refine lv_iload hx hb dX6_reckonToCome_22 (lv_at hl 3 rfl) ?_
              refine lv_ishr hx hb dX6_reckonToCome_24 ?_
              refine lv_iconst (v := 1) hx hb dX6_reckonToCome_25 (by decide) ?_
              refine lv_iand hx hb dX6_reckonToCome_26 ?_
              have f7 := andR (a := (y8_3 >>> (y15_4 &&& 31))) (m := 1) (M := 1) rfl (by decide)
              refine lv_iconst (v := 1) hx hb dX6_reckonToCome_27 (by decide) ?_
              refine lv_icmp_ne (tgt := 72) hx hb dX6_reckonToCome_28 (by decide) (fun c8 => ?_) (fun c8 => ?_)
              · have dc8 : ((y8_3 >>> (y15_4 &&& 31)) &&& 1).toInt ≠ 1 := neC rfl (show (1 : Int32).toInt = 1 from rfl) c8
                obtain ⟨z9, ez9⟩ : ∃ y : Int32, y = y15_4 + 1 := ⟨_, rfl⟩
                have iz9 : z9.toInt = y15_4.toInt + 1 := by rw [ez9]; exact addC rfl rfl (by omega) (by omega)
                refine lv_iinc (v := z9) (lv' := [(4, .int z9), (0, .ref (a 23)), (1, .int n), (3, .int y8_3)]) hx hb dX6_reckonToCome_72 hl (k := 3) rfl (by rw [ez9]; rfl) (by decide) rfl (fun ls hl => ?_)
                refine lv_goto (tgt := 15) hx hb dX6_reckonToCome_75 (by decide) ?_
                exact ih15 z9 toc_15 _ _ _ (by omega) (by omega) (by omega) hP hD hS (lv_sub hl [1, 2, 3, 0] rfl)
              · have dc8 : ((y8_3 >>> (y15_4 &&& 31)) &&& 1).toInt = 1 := eqC rfl (show (1 : Int32).toInt = 1 from rfl) c8
                refine lv_aload_n hx hb dX6_reckonToCome_31 rfl (lv_at hl 0 rfl) ?_
                refine lv_iload_n hx hb dX6_reckonToCome_32 rfl (lv_at hl 2 rfl) ?_
                refine lv_iload hx hb dX6_reckonToCome_33 (lv_at hl 3 rfl) ?_
                refine lv_iload_n hx hb dX6_reckonToCome_35 rfl (lv_at hl 1 rfl) ?_
                refine rdV (As := [.int y8_3, .int y15_4, .int n]) (rest := []) ⟨hx, hb, hml, hown, hts⟩ (k_X6_bestNext l dC dI cI cZ cQ a sor ord sha toc_15 mar tol y8_3 y15_4 n r_sor r_mar r_tol (by omega) (by omega) (by omega) (by omega) (by omega) (by omega)) (cwV 3 hts gX6_reckonToCome_X6_bestNext rfl rfl rfl (by decide +kernel) ⟨Nat.le_of_ble_eq_true rfl, Nat.le_of_ble_eq_true rfl⟩) hP hK hN [0, 1, 2, 3, 4, 5, 6, 7] rfl 0 6 rfl rfl rfl hl.1 rfl (Nat.le_of_ble_eq_true rfl) dX6_reckonToCome_36 ⟨Nat.le_of_ble_eq_true rfl, Nat.le_of_ble_eq_true rfl⟩ (fun r10 h11 => ?_)
                have h11 : (-1 ≤ r10.toInt) ∧ (r10.toInt ≤ 7) := h11
                obtain ⟨h11_0, h11_1⟩ := h11
                refine lv_istore (lv' := [(5, .int r10), (0, .ref (a 23)), (1, .int n), (3, .int y8_3), (4, .int y15_4)]) hx hb dX6_reckonToCome_39 hl (by decide) rfl (fun ls hl => ?_)
                refine lv_aload_n hx hb dX6_reckonToCome_41 rfl (lv_at hl 1 rfl) ?_
                refine va_get (D := (dC, dI)) (ci := 6) (v := .ref (a 27)) (C := RX6) (T := TX6) (N := 5) hx hb hts inX6 hown hK hP 0 rfl rfl 4 (by decide) lf21 (fun _ h9 => h9) rfl dX6_reckonToCome_42 ?_
                refine lv_iload_n hx hb dX6_reckonToCome_45 rfl (lv_at hl 3 rfl) ?_
                refine lv_bipush (v := 8) hx hb dX6_reckonToCome_46 (by decide) ?_
                refine lv_imul hx hb dX6_reckonToCome_48 ?_
                have f12 : (y8_3 * 8).toInt = (y8_3.toInt) * (8) := mulC rfl (show (8 : Int32).toInt = 8 from rfl) (by omega) (by omega)
                refine lv_iload hx hb dX6_reckonToCome_49 (lv_at hl 4 rfl) ?_
                refine lv_iadd hx hb dX6_reckonToCome_51 ?_
                have f13 : ((y8_3 * 8) + y15_4).toInt = ((y8_3.toInt) * (8)) + (y15_4.toInt) := addC f12 rfl (by omega) (by omega)
                refine lv_iload hx hb dX6_reckonToCome_52 (lv_at hl 0 rfl) ?_
                refine lv_iconst (v := (-1)) hx hb dX6_reckonToCome_54 (by decide) ?_
                refine lv_icmp_ne (tgt := 62) hx hb dX6_reckonToCome_55 (by decide) (fun c14 => ?_) (fun c14 => ?_)
                · have dc14 : r10.toInt ≠ (-1) := neC rfl (show ((-1) : Int32).toInt = (-1) from rfl) c14
                  refine lv_aload_n hx hb dX6_reckonToCome_62 rfl (lv_at hl 1 rfl) ?_
                  refine lv_iload_n hx hb dX6_reckonToCome_63 rfl (lv_at hl 3 rfl) ?_
                  refine lv_iload hx hb dX6_reckonToCome_64 (lv_at hl 4 rfl) ?_
                  refine lv_iload hx hb dX6_reckonToCome_66 (lv_at hl 0 rfl) ?_
                  refine rdV (As := [.int y8_3, .int y15_4, .int r10]) (rest := [.int ((y8_3 * 8) + y15_4), .ref (a 27)]) ⟨hx, hb, hml, hown, hts⟩ (k_X6_throughNext l dC dI cI cZ cQ a sor ord sha toc_15 mar tol y8_3 y15_4 r10 r_sor r_mar r_tol (by omega) (by omega) (by omega) (by omega) (by omega) (by omega)) (cwV 3 hts gX6_reckonToCome_X6_throughNext rfl rfl rfl (by decide +kernel) ⟨Nat.le_of_ble_eq_true rfl, Nat.le_of_ble_eq_true rfl⟩) hP hK hN [0, 1, 2, 3, 4, 5, 6, 7] rfl 0 6 rfl rfl rfl hl.1 rfl (Nat.le_of_ble_eq_true rfl) dX6_reckonToCome_68 ⟨Nat.le_of_ble_eq_true rfl, Nat.le_of_ble_eq_true rfl⟩ (fun r15 h16 => ?_)
                  have h16 : True := h16
                  have b17 : vp_in ((y8_3 * 8) + y15_4) 2048 := inC f13 (by omega) (by omega)
                  refine va_iast hx hb hK hP hD hS 4 0 rfl rfl b17 dX6_reckonToCome_71 (fun H locs hP hD hS => ?_)
                  obtain ⟨toc_u18, etoc_u18⟩ : ∃ f : Nat → Int32, f = upd toc_15 ((y8_3 * 8) + y15_4).toNatClampNeg r15 := ⟨_, rfl⟩
                  have hP : va_P (dC, dI) vwCl (wSpe cI cZ cQ a sor ord sha toc_u18 mar tol) H := by rw [etoc_u18]; exact hP
                  have hD : va_D A (wSpe cI cZ cQ a sor ord sha toc_u18 mar tol) := by rw [etoc_u18]; exact hD
                  obtain ⟨z19, ez19⟩ : ∃ y : Int32, y = y15_4 + 1 := ⟨_, rfl⟩
                  have iz19 : z19.toInt = y15_4.toInt + 1 := by rw [ez19]; exact addC rfl rfl (by omega) (by omega)
                  refine lv_iinc (v := z19) (lv' := [(4, .int z19), (5, .int r10), (0, .ref (a 23)), (1, .int n), (3, .int y8_3)]) hx hb dX6_reckonToCome_72 hl (k := 4) rfl (by rw [ez19]; rfl) (by decide) rfl (fun ls hl => ?_)
                  refine lv_goto (tgt := 15) hx hb dX6_reckonToCome_75 (by decide) ?_
                  exact ih15 z19 toc_u18 _ _ _ (by omega) (by omega) (by omega) hP hD hS (lv_sub hl [2, 3, 4, 0] rfl)
                · have dc14 : r10.toInt = (-1) := eqC rfl (show ((-1) : Int32).toInt = (-1) from rfl) c14
                  refine lv_iconst (v := 0) hx hb dX6_reckonToCome_58 (by decide) ?_
                  refine lv_goto (tgt := 71) hx hb dX6_reckonToCome_59 (by decide) ?_
                  have b20 : vp_in ((y8_3 * 8) + y15_4) 2048 := inC f13 (by omega) (by omega)
                  refine va_iast hx hb hK hP hD hS 4 0 rfl rfl b20 dX6_reckonToCome_71 (fun H locs hP hD hS => ?_)
                  obtain ⟨toc_u21, etoc_u21⟩ : ∃ f : Nat → Int32, f = upd toc_15 ((y8_3 * 8) + y15_4).toNatClampNeg 0 := ⟨_, rfl⟩
                  have hP : va_P (dC, dI) vwCl (wSpe cI cZ cQ a sor ord sha toc_u21 mar tol) H := by rw [etoc_u21]; exact hP
                  have hD : va_D A (wSpe cI cZ cQ a sor ord sha toc_u21 mar tol) := by rw [etoc_u21]; exact hD
                  obtain ⟨z22, ez22⟩ : ∃ y : Int32, y = y15_4 + 1 := ⟨_, rfl⟩
                  have iz22 : z22.toInt = y15_4.toInt + 1 := by rw [ez22]; exact addC rfl rfl (by omega) (by omega)
                  refine lv_iinc (v := z22) (lv' := [(4, .int z22), (5, .int r10), (0, .ref (a 23)), (1, .int n), (3, .int y8_3)]) hx hb dX6_reckonToCome_72 hl (k := 4) rfl (by rw [ez22]; rfl) (by decide) rfl (fun ls hl => ?_)
                  refine lv_goto (tgt := 15) hx hb dX6_reckonToCome_75 (by decide) ?_
                  exact ih15 z22 toc_u21 _ _ _ (by omega) (by omega) (by omega) hP hD hS (lv_sub hl [2, 3, 4, 0] rfl)
        have kc23 : (0 : Int32).toInt = 0 := rfl
        exact L15 _ 0 toc_8 _ _ _ (by omega) (by omega) (Nat.lt_succ_self _) hP hD hS (lv_sub hl [1, 2, 3, 0] rfl)
  exact L8 _ x3 toc _ _ _ (by omega) (by omega) (Nat.lt_succ_self _) hP hD hS (lv_sub hl [2, 3, 0] rfl)
set_option maxHeartbeats 4000000 in
set_option maxRecDepth 100000 in
theorem k_X6_reckonShared (l : Launch) (dC : Nat → ClassId) (dI : Nat → Nat → Nat) (cI cZ cQ : ClassId) (a : Nat → Nat) (sor : Nat → Int32) (ord : Nat → Int32) (sha : Nat → Int32) (toc : Nat → Int32) (mar : Nat → Int32) (tol : Nat → Int32) (sz : Nat) (n : Int32) (r_sor : rg 8 (0) (23) sor) (r_mar : rg 24 (0) (255) mar) (r_tol : rg 8 (0) (23) tol) (q0 : 1 ≤ n.toInt) (q1 : n.toInt ≤ 8) : KV l yX6_reckonShared wsX6_reckonShared { frames := 2, cells := 0, slots := 0, locals := 42 } (dC, dI) (TY cI cZ cQ) (wSpe cI cZ cQ a sor ord sha toc mar tol) [.ref (a 23), .int n] sz 0 0 (fun (u : US) => True) (fun u : US => (wSpe cI cZ cQ a sor ord (u.1 0) toc mar tol)) := by
  refine Met.ofW (cc := cX6_reckonShared) (maxL := 4) (ret := none) (by decide) rfl ?_
  intro p e s m args below meth c s₁ B hml hv
  obtain ⟨rfl, hsz, hP, hK, hD0, hN⟩ := hv
  have hx := B.exec
  have hb := B.bytes
  have hr := B.returns
  have hts := atoms_spec (ws := wsX6_reckonShared) B.pre
  have hown : s.vm.findClass RX6 = some m.cls := findClass_of_methodNamed B.named
  have hlocks := B.notSynchronized
  have lf18 := hts (.fieldLink RX6 18 "PalaceOfRooms$Speech" "shared" "[I") (List.mem_cons_of_mem _ (List.mem_append_left _ (List.mem_append_left _ (List.mem_of_getElem? (i := 0) rfl))))
  have inX6 : ∀ w ∈ wsX60, w ∈ wsX6_reckonShared := fun w h => List.mem_cons_of_mem _ (List.mem_append_left _ (List.mem_append_right _ h))
  have lf24 := hts (.fieldLink RX6 24 "PalaceOfRooms$Speech" "pictures" "LPalaceOfRooms$Pictures;") (List.mem_cons_of_mem _ (List.mem_append_left _ (List.mem_append_left _ (List.mem_of_getElem? (i := 1) rfl))))
  have lf9 := hts (.fieldLink RX6 9 "PalaceOfRooms$Speech" "sorted" "[I") (List.mem_cons_of_mem _ (List.mem_append_left _ (List.mem_append_left _ (List.mem_of_getElem? (i := 2) rfl))))
  subst hsz
  have hD := hD0.self (sz := s.heap.size)
  generalize hAe : va_A (wSpe cI cZ cQ a sor ord sha toc mar tol) s.heap.size = A at hD ⊢
  have hA : ∀ q : Nat, s.heap.size ≤ q → A q := fun q h => by rw [← hAe]; exact Or.inr h
  have hS : va_S A s.heap s.heap [] := va_S.rf
  have hl := lv_entry ([.ref (a 23), .int n]) (n := 4) (Nat.le_of_ble_eq_true rfl)
  rw [lg_entry_eq]
  generalize (lg_sl ([.ref (a 23), .int n]) ++ List.replicate (4 - (lg_sl ([.ref (a 23), .int n])).length) Slot.unset).toArray = ls at hl ⊢
  have hl : lv_has ls 4 [(0, .ref (a 23)), (1, .int n)] := hl
  refine lv_iconst (v := 0) hx hb dX6_reckonShared_0 (by decide) ?_
  refine lv_istore_n (lv' := [(2, .int 0), (0, .ref (a 23)), (1, .int n)]) hx hb dX6_reckonShared_1 rfl hl (by decide) rfl (fun ls hl => ?_)
  have L2 : ∀ (nn : Nat) (y2_2 : Int32) (sha_2 : Nat → Int32) (H : Heap) (locs : List Loc) (ls : Array Slot), (0 ≤ (y2_2.toInt)) → ((y2_2.toInt) ≤ 8) → (8 - (y2_2.toInt)).toNat < nn → va_P (dC, dI) vwCl (wSpe cI cZ cQ a sor ord sha_2 toc mar tol) H → va_D A (wSpe cI cZ cQ a sor ord sha_2 toc mar tol) → va_S A s.heap H locs → lv_has ls 4 [(0, .ref (a 23)), (1, .int n), (2, .int y2_2)] → W p l e (headSpec wsX6_reckonShared { frames := 2, cells := 0, slots := 0, locals := 42 }).room s m ([.ref (a 23), .int n] : List Value).toArray below meth c H locs 0 0 (MQ below (va_Qv (fun (u : US) => True) (Bw (dC, dI) A (fun u : US => (wSpe cI cZ cQ a sor ord (u.1 0) toc mar tol))) A) ([.ref (a 23), .int n] : List Value).toArray s 0 0 A) (F0 m 2 ls []) := by
    intro nn
    induction nn with
    | zero =>
      intro y2_2 sha_2 H locs ls i2_0 i2_1 hm
      exact absurd hm (Nat.not_lt_zero _)
    | succ nn ih2 =>
      intro y2_2 sha_2 H locs ls i2_0 i2_1 hm hP hD hS hl
      refine lv_iload_n hx hb dX6_reckonShared_2 rfl (lv_at hl 2 rfl) ?_
      refine lv_iload_n hx hb dX6_reckonShared_3 rfl (lv_at hl 1 rfl) ?_
      refine lv_icmp_ge (tgt := 56) hx hb dX6_reckonShared_4 (by decide) (fun c1 => ?_) (fun c1 => ?_)
      · have dc1 : n.toInt ≤ y2_2.toInt := leC rfl rfl c1
        exact W.vret hx hb hr (fun t ht hW => ⟨⟨(uS [sha_2] 0 (fun _ => 0)), rfl, trivial, by rw [ht]; exact hP, hD⟩, hS.F ht⟩) hS.2.2 dX6_reckonShared_56
      · have dc1 : y2_2.toInt < n.toInt := nleC rfl rfl c1
        refine lv_iconst (v := 0) hx hb dX6_reckonShared_7 (by decide) ?_
        refine lv_istore_n (lv' := [(3, .int 0), (0, .ref (a 23)), (1, .int n), (2, .int y2_2)]) hx hb dX6_reckonShared_8 rfl hl (by decide) rfl (fun ls hl => ?_)
        have L9 : ∀ (nn : Nat) (y9_3 : Int32) (sha_9 : Nat → Int32) (H : Heap) (locs : List Loc) (ls : Array Slot), (0 ≤ (y9_3.toInt)) → ((y9_3.toInt) ≤ 8) → (8 - (y9_3.toInt)).toNat < nn → va_P (dC, dI) vwCl (wSpe cI cZ cQ a sor ord sha_9 toc mar tol) H → va_D A (wSpe cI cZ cQ a sor ord sha_9 toc mar tol) → va_S A s.heap H locs → lv_has ls 4 [(0, .ref (a 23)), (1, .int n), (2, .int y2_2), (3, .int y9_3)] → W p l e (headSpec wsX6_reckonShared { frames := 2, cells := 0, slots := 0, locals := 42 }).room s m ([.ref (a 23), .int n] : List Value).toArray below meth c H locs 0 0 (MQ below (va_Qv (fun (u : US) => True) (Bw (dC, dI) A (fun u : US => (wSpe cI cZ cQ a sor ord (u.1 0) toc mar tol))) A) ([.ref (a 23), .int n] : List Value).toArray s 0 0 A) (F0 m 9 ls []) := by
          intro nn
          induction nn with
          | zero =>
            intro y9_3 sha_9 H locs ls i9_0 i9_1 hm
            exact absurd hm (Nat.not_lt_zero _)
          | succ nn ih9 =>
            intro y9_3 sha_9 H locs ls i9_0 i9_1 hm hP hD hS hl
            refine lv_iload_n hx hb dX6_reckonShared_9 rfl (lv_at hl 3 rfl) ?_
            refine lv_iload_n hx hb dX6_reckonShared_10 rfl (lv_at hl 1 rfl) ?_
            refine lv_icmp_ge (tgt := 50) hx hb dX6_reckonShared_11 (by decide) (fun c2 => ?_) (fun c2 => ?_)
            · have dc2 : n.toInt ≤ y9_3.toInt := leC rfl rfl c2
              obtain ⟨z3, ez3⟩ : ∃ y : Int32, y = y2_2 + 1 := ⟨_, rfl⟩
              have iz3 : z3.toInt = y2_2.toInt + 1 := by rw [ez3]; exact addC rfl rfl (by omega) (by omega)
              refine lv_iinc (v := z3) (lv' := [(2, .int z3), (0, .ref (a 23)), (1, .int n), (3, .int y9_3)]) hx hb dX6_reckonShared_50 hl (k := 2) rfl (by rw [ez3]; rfl) (by decide) rfl (fun ls hl => ?_)
              refine lv_goto (tgt := 2) hx hb dX6_reckonShared_53 (by decide) ?_
              exact ih2 z3 sha_9 _ _ _ (by omega) (by omega) (by omega) hP hD hS (lv_sub hl [1, 2, 0] rfl)
            · have dc2 : y9_3.toInt < n.toInt := nleC rfl rfl c2
              refine lv_aload_n hx hb dX6_reckonShared_14 rfl (lv_at hl 0 rfl) ?_
              refine va_get (D := (dC, dI)) (ci := 6) (v := .ref (a 26)) (C := RX6) (T := TX6) (N := 5) hx hb hts inX6 hown hK hP 0 rfl rfl 3 (by decide) lf18 (fun _ h9 => h9) rfl dX6_reckonShared_15 ?_
              refine lv_iload_n hx hb dX6_reckonShared_18 rfl (lv_at hl 2 rfl) ?_
              refine lv_bipush (v := 8) hx hb dX6_reckonShared_19 (by decide) ?_
              refine lv_imul hx hb dX6_reckonShared_21 ?_
              have f4 : (y2_2 * 8).toInt = (y2_2.toInt) * (8) := mulC rfl (show (8 : Int32).toInt = 8 from rfl) (by omega) (by omega)
              refine lv_iload_n hx hb dX6_reckonShared_22 rfl (lv_at hl 3 rfl) ?_
              refine lv_iadd hx hb dX6_reckonShared_23 ?_
              have f5 : ((y2_2 * 8) + y9_3).toInt = ((y2_2.toInt) * (8)) + (y9_3.toInt) := addC f4 rfl (by omega) (by omega)
              refine lv_aload_n hx hb dX6_reckonShared_24 rfl (lv_at hl 0 rfl) ?_
              refine va_get (D := (dC, dI)) (ci := 6) (v := .ref (a 2)) (C := RX6) (T := TX6) (N := 5) hx hb hts inX6 hown hK hP 0 rfl rfl 0 (by decide) lf24 (fun _ h9 => h9) rfl dX6_reckonShared_25 ?_
              refine lv_aload_n hx hb dX6_reckonShared_28 rfl (lv_at hl 0 rfl) ?_
              refine va_get (D := (dC, dI)) (ci := 6) (v := .ref (a 24)) (C := RX6) (T := TX6) (N := 5) hx hb hts inX6 hown hK hP 0 rfl rfl 1 (by decide) lf9 (fun _ h9 => h9) rfl dX6_reckonShared_29 ?_
              refine lv_iload_n hx hb dX6_reckonShared_32 rfl (lv_at hl 2 rfl) ?_
              have b6 : vp_in y2_2 8 := inC rfl (by omega) (by omega)
              refine va_iald hx hb hK hP 1 0 rfl rfl b6 dX6_reckonShared_33 ?_
              have g7 : 0 ≤ (sor y2_2.toNatClampNeg).toInt ∧ (sor y2_2.toNatClampNeg).toInt ≤ 23 := rg_at r_sor b6
              refine lv_aload_n hx hb dX6_reckonShared_34 rfl (lv_at hl 0 rfl) ?_
              refine va_get (D := (dC, dI)) (ci := 6) (v := .ref (a 24)) (C := RX6) (T := TX6) (N := 5) hx hb hts inX6 hown hK hP 0 rfl rfl 1 (by decide) lf9 (fun _ h9 => h9) rfl dX6_reckonShared_35 ?_
              refine lv_iload_n hx hb dX6_reckonShared_38 rfl (lv_at hl 3 rfl) ?_
              have b8 : vp_in y9_3 8 := inC rfl (by omega) (by omega)
              refine va_iald hx hb hK hP 1 0 rfl rfl b8 dX6_reckonShared_39 ?_
              have g9 : 0 ≤ (sor y9_3.toNatClampNeg).toInt ∧ (sor y9_3.toNatClampNeg).toInt ≤ 23 := rg_at r_sor b8
              refine rdV (As := [.int (sor y2_2.toNatClampNeg), .int (sor y9_3.toNatClampNeg)]) (rest := [.int ((y2_2 * 8) + y9_3), .ref (a 26)]) ⟨hx, hb, hml, hown, hts⟩ (k_X2_shared l dC dI cI cZ cQ a mar (sor y2_2.toNatClampNeg) (sor y9_3.toNatClampNeg) r_mar (by omega) (by omega) (by omega) (by omega)) (cwV 2 hts gX6_reckonShared_X2_shared rfl rfl rfl (by decide +kernel) ⟨Nat.le_of_ble_eq_true rfl, Nat.le_of_ble_eq_true rfl⟩) hP hK hN [5, 6] rfl 5 2 rfl rfl rfl hl.1 rfl (Nat.le_of_ble_eq_true rfl) dX6_reckonShared_40 ⟨Nat.le_of_ble_eq_true rfl, Nat.le_of_ble_eq_true rfl⟩ (fun r10 h11 => ?_)
              have h11 : (r10 = bc (mar (sor y2_2.toNatClampNeg).toNatClampNeg &&& mar (sor y9_3.toNatClampNeg).toNatClampNeg)) := h11
              have h11_0 := h11
              have b12 : vp_in ((y2_2 * 8) + y9_3) 64 := inC f5 (by omega) (by omega)
              refine va_iast hx hb hK hP hD hS 3 0 rfl rfl b12 dX6_reckonShared_43 (fun H locs hP hD hS => ?_)
              obtain ⟨sha_u13, esha_u13⟩ : ∃ f : Nat → Int32, f = upd sha_9 ((y2_2 * 8) + y9_3).toNatClampNeg r10 := ⟨_, rfl⟩
              have hP : va_P (dC, dI) vwCl (wSpe cI cZ cQ a sor ord sha_u13 toc mar tol) H := by rw [esha_u13]; exact hP
              have hD : va_D A (wSpe cI cZ cQ a sor ord sha_u13 toc mar tol) := by rw [esha_u13]; exact hD
              obtain ⟨z14, ez14⟩ : ∃ y : Int32, y = y9_3 + 1 := ⟨_, rfl⟩
              have iz14 : z14.toInt = y9_3.toInt + 1 := by rw [ez14]; exact addC rfl rfl (by omega) (by omega)
              refine lv_iinc (v := z14) (lv' := [(3, .int z14), (0, .ref (a 23)), (1, .int n), (2, .int y2_2)]) hx hb dX6_reckonShared_44 hl (k := 3) rfl (by rw [ez14]; rfl) (by decide) rfl (fun ls hl => ?_)
              refine lv_goto (tgt := 9) hx hb dX6_reckonShared_47 (by decide) ?_
              exact ih9 z14 sha_u13 _ _ _ (by omega) (by omega) (by omega) hP hD hS (lv_sub hl [1, 2, 3, 0] rfl)
        have kc15 : (0 : Int32).toInt = 0 := rfl
        exact L9 _ 0 sha_2 _ _ _ (by omega) (by omega) (Nat.lt_succ_self _) hP hD hS (lv_sub hl [1, 2, 3, 0] rfl)
  have kc16 : (0 : Int32).toInt = 0 := rfl
  exact L2 _ 0 sha _ _ _ (by omega) (by omega) (Nat.lt_succ_self _) hP hD hS (lv_sub hl [1, 2, 0] rfl)
set_option maxHeartbeats 4000000 in
set_option maxRecDepth 100000 in
theorem k_X6_sort (l : Launch) (dC : Nat → ClassId) (dI : Nat → Nat → Nat) (cI cZ cQ : ClassId) (a : Nat → Nat) (sor : Nat → Int32) (ord : Nat → Int32) (sha : Nat → Int32) (toc : Nat → Int32) (mar : Nat → Int32) (tol : Nat → Int32) (sz : Nat) (n : Int32) (r_sor : rg 8 (0) (23) sor) (r_mar : rg 24 (0) (255) mar) (r_tol : rg 8 (0) (23) tol) (q0 : 1 ≤ n.toInt) (q1 : n.toInt ≤ 8) : KV l yX6_sort wsX6_sort { frames := 0, cells := 0, slots := 0, locals := 0 } (dC, dI) (TY cI cZ cQ) (wSpe cI cZ cQ a sor ord sha toc mar tol) [.ref (a 23), .ref (a 42), .int n] sz 0 0 (fun (u : US) => (rg 8 (0) (23) (u.1 0))) (fun u : US => (wSpe cI cZ cQ a (u.1 0) ord sha toc mar tol)) := by
  refine Met.ofW (cc := cX6_sort) (maxL := 5) (ret := none) (by decide) rfl ?_
  intro p e s m args below meth c s₁ B hml hv
  obtain ⟨rfl, hsz, hP, hK, hD0, hN⟩ := hv
  have hx := B.exec
  have hb := B.bytes
  have hr := B.returns
  have hts := atoms_spec (ws := wsX6_sort) B.pre
  have hown : s.vm.findClass RX6 = some m.cls := findClass_of_methodNamed B.named
  have hlocks := B.notSynchronized
  have lf9 := hts (.fieldLink RX6 9 "PalaceOfRooms$Speech" "sorted" "[I") (List.mem_cons_of_mem _ (List.mem_append_left _ (List.mem_of_getElem? (i := 0) rfl)))
  have inX6 : ∀ w ∈ wsX60, w ∈ wsX6_sort := fun w h => List.mem_cons_of_mem _ (List.mem_append_right _ h)
  subst hsz
  have hD := hD0.self (sz := s.heap.size)
  generalize hAe : va_A (wSpe cI cZ cQ a sor ord sha toc mar tol) s.heap.size = A at hD ⊢
  have hA : ∀ q : Nat, s.heap.size ≤ q → A q := fun q h => by rw [← hAe]; exact Or.inr h
  have hS : va_S A s.heap s.heap [] := va_S.rf
  have hl := lv_entry ([.ref (a 23), .ref (a 42), .int n]) (n := 5) (Nat.le_of_ble_eq_true rfl)
  rw [lg_entry_eq]
  generalize (lg_sl ([.ref (a 23), .ref (a 42), .int n]) ++ List.replicate (5 - (lg_sl ([.ref (a 23), .ref (a 42), .int n])).length) Slot.unset).toArray = ls at hl ⊢
  have hl : lv_has ls 5 [(0, .ref (a 23)), (1, .ref (a 42)), (2, .int n)] := hl
  refine lv_iconst (v := 0) hx hb dX6_sort_0 (by decide) ?_
  refine lv_istore_n (lv' := [(3, .int 0), (0, .ref (a 23)), (1, .ref (a 42)), (2, .int n)]) hx hb dX6_sort_1 rfl hl (by decide) rfl (fun ls hl => ?_)
  have L2 : ∀ (nn : Nat) (y2_3 : Int32) (sor_2 : Nat → Int32) (H : Heap) (locs : List Loc) (ls : Array Slot), (rg 8 (0) (23) sor_2) → (0 ≤ (y2_3.toInt)) → ((y2_3.toInt) ≤ 8) → (8 - (y2_3.toInt)).toNat < nn → va_P (dC, dI) vwCl (wSpe cI cZ cQ a sor_2 ord sha toc mar tol) H → va_D A (wSpe cI cZ cQ a sor_2 ord sha toc mar tol) → va_S A s.heap H locs → lv_has ls 5 [(0, .ref (a 23)), (1, .ref (a 42)), (2, .int n), (3, .int y2_3)] → W p l e (headSpec wsX6_sort { frames := 0, cells := 0, slots := 0, locals := 0 }).room s m ([.ref (a 23), .ref (a 42), .int n] : List Value).toArray below meth c H locs 0 0 (MQ below (va_Qv (fun (u : US) => (rg 8 (0) (23) (u.1 0))) (Bw (dC, dI) A (fun u : US => (wSpe cI cZ cQ a (u.1 0) ord sha toc mar tol))) A) ([.ref (a 23), .ref (a 42), .int n] : List Value).toArray s 0 0 A) (F0 m 2 ls []) := by
    intro nn
    induction nn with
    | zero =>
      intro y2_3 sor_2 H locs ls r_sor_2 i2_0 i2_1 hm
      exact absurd hm (Nat.not_lt_zero _)
    | succ nn ih2 =>
      intro y2_3 sor_2 H locs ls r_sor_2 i2_0 i2_1 hm hP hD hS hl
      refine lv_iload_n hx hb dX6_sort_2 rfl (lv_at hl 3 rfl) ?_
      refine lv_iload_n hx hb dX6_sort_3 rfl (lv_at hl 2 rfl) ?_
      refine lv_icmp_ge (tgt := 68) hx hb dX6_sort_4 (by decide) (fun c1 => ?_) (fun c1 => ?_)
      · have dc1 : n.toInt ≤ y2_3.toInt := leC rfl rfl c1
        exact W.vret hx hb hr (fun t ht hW => ⟨⟨(uS [sor_2] 0 (fun _ => 0)), rfl, r_sor_2, by rw [ht]; exact hP, hD⟩, hS.F ht⟩) hS.2.2 dX6_sort_68
      · have dc1 : y2_3.toInt < n.toInt := nleC rfl rfl c1
        refine lv_iload_n hx hb dX6_sort_7 rfl (lv_at hl 3 rfl) ?_
        refine lv_istore (lv' := [(4, .int y2_3), (0, .ref (a 23)), (1, .ref (a 42)), (2, .int n), (3, .int y2_3)]) hx hb dX6_sort_8 hl (by decide) rfl (fun ls hl => ?_)
        have L10 : ∀ (nn : Nat) (y10_4 : Int32) (sor_10 : Nat → Int32) (H : Heap) (locs : List Loc) (ls : Array Slot), (rg 8 (0) (23) sor_10) → (0 ≤ (y10_4.toInt)) → ((y10_4.toInt) ≤ (y2_3.toInt)) → ((y10_4.toInt)).toNat < nn → va_P (dC, dI) vwCl (wSpe cI cZ cQ a sor_10 ord sha toc mar tol) H → va_D A (wSpe cI cZ cQ a sor_10 ord sha toc mar tol) → va_S A s.heap H locs → lv_has ls 5 [(0, .ref (a 23)), (1, .ref (a 42)), (2, .int n), (3, .int y2_3), (4, .int y10_4)] → W p l e (headSpec wsX6_sort { frames := 0, cells := 0, slots := 0, locals := 0 }).room s m ([.ref (a 23), .ref (a 42), .int n] : List Value).toArray below meth c H locs 0 0 (MQ below (va_Qv (fun (u : US) => (rg 8 (0) (23) (u.1 0))) (Bw (dC, dI) A (fun u : US => (wSpe cI cZ cQ a (u.1 0) ord sha toc mar tol))) A) ([.ref (a 23), .ref (a 42), .int n] : List Value).toArray s 0 0 A) (F0 m 10 ls []) := by
          intro nn
          induction nn with
          | zero =>
            intro y10_4 sor_10 H locs ls r_sor_10 i10_0 i10_1 hm
            exact absurd hm (Nat.not_lt_zero _)
          | succ nn ih10 =>
            intro y10_4 sor_10 H locs ls r_sor_10 i10_0 i10_1 hm hP hD hS hl
            refine lv_iload hx hb dX6_sort_10 (lv_at hl 4 rfl) ?_
            refine lv_if_le (tgt := 52) hx hb dX6_sort_12 (by decide) (fun c2 => ?_) (fun c2 => ?_)
            · have dc2 : y10_4.toInt ≤ 0 := leC rfl (show (0 : Int32).toInt = 0 from rfl) c2
              refine lv_aload_n hx hb dX6_sort_52 rfl (lv_at hl 0 rfl) ?_
              refine va_get (D := (dC, dI)) (ci := 6) (v := .ref (a 24)) (C := RX6) (T := TX6) (N := 5) hx hb hts inX6 hown hK hP 0 rfl rfl 1 (by decide) lf9 (fun _ h9 => h9) rfl dX6_sort_53 ?_
              refine lv_iload hx hb dX6_sort_56 (lv_at hl 4 rfl) ?_
              refine lv_aload_n hx hb dX6_sort_58 rfl (lv_at hl 1 rfl) ?_
              refine lv_iload_n hx hb dX6_sort_59 rfl (lv_at hl 3 rfl) ?_
              have b3 : vp_in y2_3 8 := inC rfl (by omega) (by omega)
              refine va_iald hx hb hK hP 7 0 rfl rfl b3 dX6_sort_60 ?_
              have g4 : 0 ≤ (tol y2_3.toNatClampNeg).toInt ∧ (tol y2_3.toNatClampNeg).toInt ≤ 23 := rg_at r_tol b3
              refine lv_topi (fun x5 ex5 => ?_)
              have ix5 : x5.toInt = (tol y2_3.toNatClampNeg).toInt := by rw [ex5]
              have b6 : vp_in y10_4 8 := inC rfl (by omega) (by omega)
              have g7 : rg 8 (0) (23) (upd sor_10 y10_4.toNatClampNeg x5) := rg_upd r_sor_10 rfl (by omega) (by omega)
              refine va_iast hx hb hK hP hD hS 1 0 rfl rfl b6 dX6_sort_61 (fun H locs hP hD hS => ?_)
              obtain ⟨sor_u8, esor_u8⟩ : ∃ f : Nat → Int32, f = upd sor_10 y10_4.toNatClampNeg x5 := ⟨_, rfl⟩
              have rsor_u8 : rg 8 (0) (23) sor_u8 := by rw [esor_u8]; exact g7
              have hP : va_P (dC, dI) vwCl (wSpe cI cZ cQ a sor_u8 ord sha toc mar tol) H := by rw [esor_u8]; exact hP
              have hD : va_D A (wSpe cI cZ cQ a sor_u8 ord sha toc mar tol) := by rw [esor_u8]; exact hD
              obtain ⟨z9, ez9⟩ : ∃ y : Int32, y = y2_3 + 1 := ⟨_, rfl⟩
              have iz9 : z9.toInt = y2_3.toInt + 1 := by rw [ez9]; exact addC rfl rfl (by omega) (by omega)
              refine lv_iinc (v := z9) (lv' := [(3, .int z9), (0, .ref (a 23)), (1, .ref (a 42)), (2, .int n), (4, .int y10_4)]) hx hb dX6_sort_62 hl (k := 3) rfl (by rw [ez9]; rfl) (by decide) rfl (fun ls hl => ?_)
              refine lv_goto (tgt := 2) hx hb dX6_sort_65 (by decide) ?_
              exact ih2 z9 sor_u8 _ _ _ rsor_u8 (by omega) (by omega) (by omega) hP hD hS (lv_sub hl [1, 2, 3, 0] rfl)
            · have dc2 : 0 < y10_4.toInt := nleC rfl (show (0 : Int32).toInt = 0 from rfl) c2
              refine lv_aload_n hx hb dX6_sort_15 rfl (lv_at hl 0 rfl) ?_
              refine va_get (D := (dC, dI)) (ci := 6) (v := .ref (a 24)) (C := RX6) (T := TX6) (N := 5) hx hb hts inX6 hown hK hP 0 rfl rfl 1 (by decide) lf9 (fun _ h9 => h9) rfl dX6_sort_16 ?_
              refine lv_iload hx hb dX6_sort_19 (lv_at hl 4 rfl) ?_
              refine lv_iconst (v := 1) hx hb dX6_sort_21 (by decide) ?_
              refine lv_isub hx hb dX6_sort_22 ?_
              have f10 : (y10_4 - 1).toInt = (y10_4.toInt) - (1) := subC rfl (show (1 : Int32).toInt = 1 from rfl) (by omega) (by omega)
              have b11 : vp_in (y10_4 - 1) 8 := inC f10 (by omega) (by omega)
              refine va_iald hx hb hK hP 1 0 rfl rfl b11 dX6_sort_23 ?_
              have g12 : 0 ≤ (sor_10 (y10_4 - 1).toNatClampNeg).toInt ∧ (sor_10 (y10_4 - 1).toNatClampNeg).toInt ≤ 23 := rg_at r_sor_10 b11
              refine lv_aload_n hx hb dX6_sort_24 rfl (lv_at hl 1 rfl) ?_
              refine lv_iload_n hx hb dX6_sort_25 rfl (lv_at hl 3 rfl) ?_
              have b13 : vp_in y2_3 8 := inC rfl (by omega) (by omega)
              refine va_iald hx hb hK hP 7 0 rfl rfl b13 dX6_sort_26 ?_
              have g14 : 0 ≤ (tol y2_3.toNatClampNeg).toInt ∧ (tol y2_3.toNatClampNeg).toInt ≤ 23 := rg_at r_tol b13
              refine lv_icmp_le (tgt := 52) hx hb dX6_sort_27 (by decide) (fun c15 => ?_) (fun c15 => ?_)
              · have dc15 : (sor_10 (y10_4 - 1).toNatClampNeg).toInt ≤ (tol y2_3.toNatClampNeg).toInt := leC rfl rfl c15
                refine lv_aload_n hx hb dX6_sort_52 rfl (lv_at hl 0 rfl) ?_
                refine va_get (D := (dC, dI)) (ci := 6) (v := .ref (a 24)) (C := RX6) (T := TX6) (N := 5) hx hb hts inX6 hown hK hP 0 rfl rfl 1 (by decide) lf9 (fun _ h9 => h9) rfl dX6_sort_53 ?_
                refine lv_iload hx hb dX6_sort_56 (lv_at hl 4 rfl) ?_
                refine lv_aload_n hx hb dX6_sort_58 rfl (lv_at hl 1 rfl) ?_
                refine lv_iload_n hx hb dX6_sort_59 rfl (lv_at hl 3 rfl) ?_
                have b16 : vp_in y2_3 8 := inC rfl (by omega) (by omega)
                refine va_iald hx hb hK hP 7 0 rfl rfl b16 dX6_sort_60 ?_
                have g17 : 0 ≤ (tol y2_3.toNatClampNeg).toInt ∧ (tol y2_3.toNatClampNeg).toInt ≤ 23 := rg_at r_tol b16
                refine lv_topi (fun x18 ex18 => ?_)
                have ix18 : x18.toInt = (tol y2_3.toNatClampNeg).toInt := by rw [ex18]
                have b19 : vp_in y10_4 8 := inC rfl (by omega) (by omega)
                have g20 : rg 8 (0) (23) (upd sor_10 y10_4.toNatClampNeg x18) := rg_upd r_sor_10 rfl (by omega) (by omega)
                refine va_iast hx hb hK hP hD hS 1 0 rfl rfl b19 dX6_sort_61 (fun H locs hP hD hS => ?_)
                obtain ⟨sor_u21, esor_u21⟩ : ∃ f : Nat → Int32, f = upd sor_10 y10_4.toNatClampNeg x18 := ⟨_, rfl⟩
                have rsor_u21 : rg 8 (0) (23) sor_u21 := by rw [esor_u21]; exact g20
                have hP : va_P (dC, dI) vwCl (wSpe cI cZ cQ a sor_u21 ord sha toc mar tol) H := by rw [esor_u21]; exact hP
                have hD : va_D A (wSpe cI cZ cQ a sor_u21 ord sha toc mar tol) := by rw [esor_u21]; exact hD
                obtain ⟨z22, ez22⟩ : ∃ y : Int32, y = y2_3 + 1 := ⟨_, rfl⟩
                have iz22 : z22.toInt = y2_3.toInt + 1 := by rw [ez22]; exact addC rfl rfl (by omega) (by omega)
                refine lv_iinc (v := z22) (lv' := [(3, .int z22), (0, .ref (a 23)), (1, .ref (a 42)), (2, .int n), (4, .int y10_4)]) hx hb dX6_sort_62 hl (k := 3) rfl (by rw [ez22]; rfl) (by decide) rfl (fun ls hl => ?_)
                refine lv_goto (tgt := 2) hx hb dX6_sort_65 (by decide) ?_
                exact ih2 z22 sor_u21 _ _ _ rsor_u21 (by omega) (by omega) (by omega) hP hD hS (lv_sub hl [1, 2, 3, 0] rfl)
              · have dc15 : (tol y2_3.toNatClampNeg).toInt < (sor_10 (y10_4 - 1).toNatClampNeg).toInt := nleC rfl rfl c15
                refine lv_aload_n hx hb dX6_sort_30 rfl (lv_at hl 0 rfl) ?_
                refine va_get (D := (dC, dI)) (ci := 6) (v := .ref (a 24)) (C := RX6) (T := TX6) (N := 5) hx hb hts inX6 hown hK hP 0 rfl rfl 1 (by decide) lf9 (fun _ h9 => h9) rfl dX6_sort_31 ?_
                refine lv_iload hx hb dX6_sort_34 (lv_at hl 4 rfl) ?_
                refine lv_aload_n hx hb dX6_sort_36 rfl (lv_at hl 0 rfl) ?_
                refine va_get (D := (dC, dI)) (ci := 6) (v := .ref (a 24)) (C := RX6) (T := TX6) (N := 5) hx hb hts inX6 hown hK hP 0 rfl rfl 1 (by decide) lf9 (fun _ h9 => h9) rfl dX6_sort_37 ?_
                refine lv_iload hx hb dX6_sort_40 (lv_at hl 4 rfl) ?_
                refine lv_iconst (v := 1) hx hb dX6_sort_42 (by decide) ?_
                refine lv_isub hx hb dX6_sort_43 ?_
                have f23 : (y10_4 - 1).toInt = (y10_4.toInt) - (1) := subC rfl (show (1 : Int32).toInt = 1 from rfl) (by omega) (by omega)
                have b24 : vp_in (y10_4 - 1) 8 := inC f23 (by omega) (by omega)
                refine va_iald hx hb hK hP 1 0 rfl rfl b24 dX6_sort_44 ?_
                have g25 : 0 ≤ (sor_10 (y10_4 - 1).toNatClampNeg).toInt ∧ (sor_10 (y10_4 - 1).toNatClampNeg).toInt ≤ 23 := rg_at r_sor_10 b24
                refine lv_topi (fun x26 ex26 => ?_)
                have ix26 : x26.toInt = (sor_10 (y10_4 - 1).toNatClampNeg).toInt := by rw [ex26]
                have b27 : vp_in y10_4 8 := inC rfl (by omega) (by omega)
                have g28 : rg 8 (0) (23) (upd sor_10 y10_4.toNatClampNeg x26) := rg_upd r_sor_10 rfl (by omega) (by omega)
                refine va_iast hx hb hK hP hD hS 1 0 rfl rfl b27 dX6_sort_45 (fun H locs hP hD hS => ?_)
                obtain ⟨sor_u29, esor_u29⟩ : ∃ f : Nat → Int32, f = upd sor_10 y10_4.toNatClampNeg x26 := ⟨_, rfl⟩
                have rsor_u29 : rg 8 (0) (23) sor_u29 := by rw [esor_u29]; exact g28
                have hP : va_P (dC, dI) vwCl (wSpe cI cZ cQ a sor_u29 ord sha toc mar tol) H := by rw [esor_u29]; exact hP
                have hD : va_D A (wSpe cI cZ cQ a sor_u29 ord sha toc mar tol) := by rw [esor_u29]; exact hD
                obtain ⟨z30, ez30⟩ : ∃ y : Int32, y = y10_4 + (-1) := ⟨_, rfl⟩
                have iz30 : z30.toInt = y10_4.toInt + (-1) := by rw [ez30]; exact addC rfl rfl (by omega) (by omega)
                refine lv_iinc (v := z30) (lv' := [(4, .int z30), (0, .ref (a 23)), (1, .ref (a 42)), (2, .int n), (3, .int y2_3)]) hx hb dX6_sort_46 hl (k := 4) rfl (by rw [ez30]; rfl) (by decide) rfl (fun ls hl => ?_)
                refine lv_goto (tgt := 10) hx hb dX6_sort_49 (by decide) ?_
                exact ih10 z30 sor_u29 _ _ _ rsor_u29 (by omega) (by omega) (by omega) hP hD hS (lv_sub hl [1, 2, 3, 4, 0] rfl)
        exact L10 _ y2_3 sor_2 _ _ _ r_sor_2 (by omega) (by omega) (Nat.lt_succ_self _) hP hD hS (lv_sub hl [1, 2, 3, 4, 0] rfl)
  have kc31 : (0 : Int32).toInt = 0 := rfl
  exact L2 _ 0 sor _ _ _ r_sor (by omega) (by omega) (Nat.lt_succ_self _) hP hD hS (lv_sub hl [1, 2, 3, 0] rfl)
set_option maxHeartbeats 4000000 in
set_option maxRecDepth 100000 in
theorem k_X6_layOut (l : Launch) (dC : Nat → ClassId) (dI : Nat → Nat → Nat) (cI cZ cQ : ClassId) (a : Nat → Nat) (sor : Nat → Int32) (ord : Nat → Int32) (sha : Nat → Int32) (toc : Nat → Int32) (mar : Nat → Int32) (tol : Nat → Int32) (sz : Nat) (n : Int32) (r_sor : rg 8 (0) (23) sor) (r_mar : rg 24 (0) (255) mar) (r_tol : rg 8 (0) (23) tol) (q0 : 1 ≤ n.toInt) (q1 : n.toInt ≤ 8) : KW l yX6_layOut wsX6_layOut { frames := 4, cells := 0, slots := 0, locals := 96 } (dC, dI) (TY cI cZ cQ) (wSpe cI cZ cQ a sor ord sha toc mar tol) [.ref (a 23), .ref (a 42), .int n] sz 0 0 (fun (r : Int32) (u : US) => (rg 8 (0) (23) (u.1 0))) (fun u : US => (wSpe cI cZ cQ a (u.1 0) (u.1 1) (u.1 2) (u.1 3) mar tol)) := by
  refine Met.ofW (cc := cX6_layOut) (maxL := 5) (ret := (some .int)) (by decide) rfl ?_
  intro p e s m args below meth c s₁ B hml hv
  obtain ⟨rfl, hsz, hP, hK, hD0, hN⟩ := hv
  have hx := B.exec
  have hb := B.bytes
  have hr := B.returns
  have hts := atoms_spec (ws := wsX6_layOut) B.pre
  have hown : s.vm.findClass RX6 = some m.cls := findClass_of_methodNamed B.named
  have hlocks := B.notSynchronized
  subst hsz
  have hD := hD0.self (sz := s.heap.size)
  generalize hAe : va_A (wSpe cI cZ cQ a sor ord sha toc mar tol) s.heap.size = A at hD ⊢
  have hA : ∀ q : Nat, s.heap.size ≤ q → A q := fun q h => by rw [← hAe]; exact Or.inr h
  have hS : va_S A s.heap s.heap [] := va_S.rf
  have hl := lv_entry ([.ref (a 23), .ref (a 42), .int n]) (n := 5) (Nat.le_of_ble_eq_true rfl)
  rw [lg_entry_eq]
  generalize (lg_sl ([.ref (a 23), .ref (a 42), .int n]) ++ List.replicate (5 - (lg_sl ([.ref (a 23), .ref (a 42), .int n])).length) Slot.unset).toArray = ls at hl ⊢
  have hl : lv_has ls 5 [(0, .ref (a 23)), (1, .ref (a 42)), (2, .int n)] := hl
  refine lv_aload_n hx hb dX6_layOut_0 rfl (lv_at hl 0 rfl) ?_
  refine lv_aload_n hx hb dX6_layOut_1 rfl (lv_at hl 1 rfl) ?_
  refine lv_iload_n hx hb dX6_layOut_2 rfl (lv_at hl 2 rfl) ?_
  refine wvV (As := [.ref (a 42), .int n]) (rest := []) (wr := []) (w2 := (fun u : US => (wSpe cI cZ cQ a (u.1 0) ord sha toc mar tol))) ⟨hx, hb, hml, hown, hts⟩ (k_X6_sort l dC dI cI cZ cQ a sor ord sha toc mar tol _ n r_sor r_mar r_tol (by omega) (by omega)) (cwV 2 hts gX6_layOut_X6_sort rfl rfl rfl (by decide +kernel) ⟨Nat.le_of_ble_eq_true rfl, Nat.le_of_ble_eq_true rfl⟩) hP hD hS hA hK hN [0, 1, 2, 3, 4, 5, 6, 7] [] [0, 1, 2, 3, 4, 5, 6, 7] rfl rfl (by decide) (by decide) (by decide) (fun _ => rfl) (by decide) 0 6 rfl rfl rfl hl.1 rfl (Nat.le_of_ble_eq_true rfl) dX6_layOut_3 ⟨Nat.le_of_ble_eq_true rfl, Nat.le_of_ble_eq_true rfl⟩ (fun u3 H locs h2 hP hD hS => ?_)
  obtain ⟨sor_c4, esor_c4⟩ : ∃ f : Nat → Int32, f = (u3.1 0) := ⟨_, rfl⟩
  have hP : va_P (dC, dI) vwCl (wSpe cI cZ cQ a sor_c4 ord sha toc mar tol) H := by rw [esor_c4]; exact hP
  have hD : va_D A (wSpe cI cZ cQ a sor_c4 ord sha toc mar tol) := by rw [esor_c4]; exact hD
  have h2 : (rg 8 (0) (23) sor_c4) := by (try rw [esor_c4]); exact h2
  have h2_0 := h2
  refine lv_aload_n hx hb dX6_layOut_6 rfl (lv_at hl 0 rfl) ?_
  refine lv_iload_n hx hb dX6_layOut_7 rfl (lv_at hl 2 rfl) ?_
  refine wvV (As := [.int n]) (rest := []) (wr := []) (w2 := (fun u : US => (wSpe cI cZ cQ a sor_c4 ord (u.1 0) toc mar tol))) ⟨hx, hb, hml, hown, hts⟩ (k_X6_reckonShared l dC dI cI cZ cQ a sor_c4 ord sha toc mar tol _ n h2_0 r_mar r_tol (by omega) (by omega)) (cwV 1 hts gX6_layOut_X6_reckonShared rfl rfl rfl (by decide +kernel) ⟨Nat.le_of_ble_eq_true rfl, Nat.le_of_ble_eq_true rfl⟩) hP hD hS hA hK hN [0, 1, 2, 3, 4, 5, 6, 7] [] [0, 1, 2, 3, 4, 5, 6, 7] rfl rfl (by decide) (by decide) (by decide) (fun _ => rfl) (by decide) 0 6 rfl rfl rfl hl.1 rfl (Nat.le_of_ble_eq_true rfl) dX6_layOut_8 ⟨Nat.le_of_ble_eq_true rfl, Nat.le_of_ble_eq_true rfl⟩ (fun u7 H locs h6 hP hD hS => ?_)
  obtain ⟨sha_c8, esha_c8⟩ : ∃ f : Nat → Int32, f = (u7.1 0) := ⟨_, rfl⟩
  have hP : va_P (dC, dI) vwCl (wSpe cI cZ cQ a sor_c4 ord sha_c8 toc mar tol) H := by rw [esha_c8]; exact hP
  have hD : va_D A (wSpe cI cZ cQ a sor_c4 ord sha_c8 toc mar tol) := by rw [esha_c8]; exact hD
  have h6 : True := by (try rw [esha_c8]); exact h6
  refine lv_aload_n hx hb dX6_layOut_11 rfl (lv_at hl 0 rfl) ?_
  refine lv_iload_n hx hb dX6_layOut_12 rfl (lv_at hl 2 rfl) ?_
  refine wvV (As := [.int n]) (rest := []) (wr := []) (w2 := (fun u : US => (wSpe cI cZ cQ a sor_c4 ord sha_c8 (u.1 0) mar tol))) ⟨hx, hb, hml, hown, hts⟩ (k_X6_reckonToCome l dC dI cI cZ cQ a sor_c4 ord sha_c8 toc mar tol _ n h2_0 r_mar r_tol (by omega) (by omega)) (cwV 1 hts gX6_layOut_X6_reckonToCome rfl rfl rfl (by decide +kernel) ⟨Nat.le_of_ble_eq_true rfl, Nat.le_of_ble_eq_true rfl⟩) hP hD hS hA hK hN [0, 1, 2, 3, 4, 5, 6, 7] [] [0, 1, 2, 3, 4, 5, 6, 7] rfl rfl (by decide) (by decide) (by decide) (fun _ => rfl) (by decide) 0 6 rfl rfl rfl hl.1 rfl (Nat.le_of_ble_eq_true rfl) dX6_layOut_13 ⟨Nat.le_of_ble_eq_true rfl, Nat.le_of_ble_eq_true rfl⟩ (fun u11 H locs h10 hP hD hS => ?_)
  obtain ⟨toc_c12, etoc_c12⟩ : ∃ f : Nat → Int32, f = (u11.1 0) := ⟨_, rfl⟩
  have hP : va_P (dC, dI) vwCl (wSpe cI cZ cQ a sor_c4 ord sha_c8 toc_c12 mar tol) H := by rw [etoc_c12]; exact hP
  have hD : va_D A (wSpe cI cZ cQ a sor_c4 ord sha_c8 toc_c12 mar tol) := by rw [etoc_c12]; exact hD
  have h10 : True := by (try rw [etoc_c12]); exact h10
  refine lv_iconst (v := 0) hx hb dX6_layOut_16 (by decide) ?_
  refine lv_istore_n (lv' := [(3, .int 0), (0, .ref (a 23)), (1, .ref (a 42)), (2, .int n)]) hx hb dX6_layOut_17 rfl hl (by decide) rfl (fun ls hl => ?_)
  refine lv_iconst (v := 1) hx hb dX6_layOut_18 (by decide) ?_
  refine lv_istore (lv' := [(4, .int 1), (3, .int 0), (0, .ref (a 23)), (1, .ref (a 42)), (2, .int n)]) hx hb dX6_layOut_19 hl (by decide) rfl (fun ls hl => ?_)
  have L21 : ∀ (nn : Nat) (y21_3 : Int32) (y21_4 : Int32) (H : Heap) (locs : List Loc) (ls : Array Slot), (1 ≤ (y21_4.toInt)) → ((y21_4.toInt) ≤ 8) → (0 ≤ (y21_3.toInt)) → ((y21_3.toInt) ≤ 7) → (8 - (y21_4.toInt)).toNat < nn → va_P (dC, dI) vwCl (wSpe cI cZ cQ a sor_c4 ord sha_c8 toc_c12 mar tol) H → va_D A (wSpe cI cZ cQ a sor_c4 ord sha_c8 toc_c12 mar tol) → va_S A s.heap H locs → lv_has ls 5 [(0, .ref (a 23)), (2, .int n), (3, .int y21_3), (4, .int y21_4)] → W p l e (headSpec wsX6_layOut { frames := 4, cells := 0, slots := 0, locals := 96 }).room s m ([.ref (a 23), .ref (a 42), .int n] : List Value).toArray below meth c H locs 0 0 (MQ below (va_Qi (fun (r : Int32) (u : US) => (rg 8 (0) (23) (u.1 0))) (Bw (dC, dI) A (fun u : US => (wSpe cI cZ cQ a (u.1 0) (u.1 1) (u.1 2) (u.1 3) mar tol))) A) ([.ref (a 23), .ref (a 42), .int n] : List Value).toArray s 0 0 A) (F0 m 21 ls []) := by
    intro nn
    induction nn with
    | zero =>
      intro y21_3 y21_4 H locs ls i21_0 i21_1 i21_2 i21_3 hm
      exact absurd hm (Nat.not_lt_zero _)
    | succ nn ih21 =>
      intro y21_3 y21_4 H locs ls i21_0 i21_1 i21_2 i21_3 hm hP hD hS hl
      refine lv_iload hx hb dX6_layOut_21 (lv_at hl 3 rfl) ?_
      refine lv_iload_n hx hb dX6_layOut_23 rfl (lv_at hl 1 rfl) ?_
      refine lv_icmp_ge (tgt := 57) hx hb dX6_layOut_24 (by decide) (fun c13 => ?_) (fun c13 => ?_)
      · have dc13 : n.toInt ≤ y21_4.toInt := leC rfl rfl c13
        refine lv_aload_n hx hb dX6_layOut_57 rfl (lv_at hl 0 rfl) ?_
        refine lv_iconst (v := 1) hx hb dX6_layOut_58 (by decide) ?_
        refine lv_iload_n hx hb dX6_layOut_59 rfl (lv_at hl 2 rfl) ?_
        refine lv_ishl hx hb dX6_layOut_60 ?_
        have f14 : 1 ≤ ((1 : Int32) <<< (y21_3 &&& 31)).toInt ∧ ((1 : Int32) <<< (y21_3 &&& 31)).toInt ≤ 128 := shl1 rfl (by omega) 7 (by omega) (by decide)
        refine lv_iload_n hx hb dX6_layOut_61 rfl (lv_at hl 2 rfl) ?_
        refine rdV (As := [.int ((1 : Int32) <<< (y21_3 &&& 31)), .int y21_3]) (rest := []) ⟨hx, hb, hml, hown, hts⟩ (k_X6_toComeAt l dC dI cI cZ cQ a sor_c4 ord sha_c8 toc_c12 mar tol ((1 : Int32) <<< (y21_3 &&& 31)) y21_3 h2_0 r_mar r_tol (by omega) (by omega) (by omega) (by omega)) (cwV 2 hts gX6_layOut_X6_toComeAt rfl rfl rfl (by decide +kernel) ⟨Nat.le_of_ble_eq_true rfl, Nat.le_of_ble_eq_true rfl⟩) hP hK hN [0, 1, 2, 3, 4, 5, 6, 7] rfl 0 6 rfl rfl rfl hl.1 rfl (Nat.le_of_ble_eq_true rfl) dX6_layOut_62 ⟨Nat.le_of_ble_eq_true rfl, Nat.le_of_ble_eq_true rfl⟩ (fun r15 h16 => ?_)
        have h16 : True := h16
        refine lv_istore (lv' := [(4, .int r15), (0, .ref (a 23)), (2, .int n), (3, .int y21_3)]) hx hb dX6_layOut_65 hl (by decide) rfl (fun ls hl => ?_)
        refine lv_aload_n hx hb dX6_layOut_67 rfl (lv_at hl 1 rfl) ?_
        refine lv_iload_n hx hb dX6_layOut_68 rfl (lv_at hl 3 rfl) ?_
        refine lv_iload_n hx hb dX6_layOut_69 rfl (lv_at hl 2 rfl) ?_
        refine wvV (As := [.int y21_3, .int n]) (rest := []) (wr := []) (w2 := (fun u : US => (wSpe cI cZ cQ a sor_c4 (u.1 0) sha_c8 toc_c12 mar tol))) ⟨hx, hb, hml, hown, hts⟩ (k_X6_follow l dC dI cI cZ cQ a sor_c4 ord sha_c8 toc_c12 mar tol _ y21_3 n h2_0 r_mar r_tol (by omega) (by omega) (by omega) (by omega)) (cwV 2 hts gX6_layOut_X6_follow rfl rfl rfl (by decide +kernel) ⟨Nat.le_of_ble_eq_true rfl, Nat.le_of_ble_eq_true rfl⟩) hP hD hS hA hK hN [0, 1, 2, 3, 4, 5, 6, 7] [] [0, 1, 2, 3, 4, 5, 6, 7] rfl rfl (by decide) (by decide) (by decide) (fun _ => rfl) (by decide) 0 6 rfl rfl rfl hl.1 rfl (Nat.le_of_ble_eq_true rfl) dX6_layOut_70 ⟨Nat.le_of_ble_eq_true rfl, Nat.le_of_ble_eq_true rfl⟩ (fun u19 H locs h18 hP hD hS => ?_)
        obtain ⟨ord_c20, eord_c20⟩ : ∃ f : Nat → Int32, f = (u19.1 0) := ⟨_, rfl⟩
        have hP : va_P (dC, dI) vwCl (wSpe cI cZ cQ a sor_c4 ord_c20 sha_c8 toc_c12 mar tol) H := by rw [eord_c20]; exact hP
        have hD : va_D A (wSpe cI cZ cQ a sor_c4 ord_c20 sha_c8 toc_c12 mar tol) := by rw [eord_c20]; exact hD
        have h18 : True := by (try rw [eord_c20]); exact h18
        refine lv_iload hx hb dX6_layOut_73 (lv_at hl 0 rfl) ?_
        exact W.iret (v := r15) hx hb hr (fun t ht hW => ⟨⟨r15, (uS [sor_c4, ord_c20, sha_c8, toc_c12] 0 (fun _ => 0)), rfl, h2_0, by rw [ht]; exact hP, hD⟩, hS.F ht⟩) hS.2.2 dX6_layOut_75
      · have dc13 : y21_4.toInt < n.toInt := nleC rfl rfl c13
        refine lv_aload_n hx hb dX6_layOut_27 rfl (lv_at hl 0 rfl) ?_
        refine lv_iconst (v := 1) hx hb dX6_layOut_28 (by decide) ?_
        refine lv_iload hx hb dX6_layOut_29 (lv_at hl 3 rfl) ?_
        refine lv_ishl hx hb dX6_layOut_31 ?_
        have f21 : 1 ≤ ((1 : Int32) <<< (y21_4 &&& 31)).toInt ∧ ((1 : Int32) <<< (y21_4 &&& 31)).toInt ≤ 128 := shl1 rfl (by omega) 7 (by omega) (by decide)
        refine lv_iload hx hb dX6_layOut_32 (lv_at hl 3 rfl) ?_
        refine rdV (As := [.int ((1 : Int32) <<< (y21_4 &&& 31)), .int y21_4]) (rest := []) ⟨hx, hb, hml, hown, hts⟩ (k_X6_toComeAt l dC dI cI cZ cQ a sor_c4 ord sha_c8 toc_c12 mar tol ((1 : Int32) <<< (y21_4 &&& 31)) y21_4 h2_0 r_mar r_tol (by omega) (by omega) (by omega) (by omega)) (cwV 2 hts gX6_layOut_X6_toComeAt rfl rfl rfl (by decide +kernel) ⟨Nat.le_of_ble_eq_true rfl, Nat.le_of_ble_eq_true rfl⟩) hP hK hN [0, 1, 2, 3, 4, 5, 6, 7] rfl 0 6 rfl rfl rfl hl.1 rfl (Nat.le_of_ble_eq_true rfl) dX6_layOut_34 ⟨Nat.le_of_ble_eq_true rfl, Nat.le_of_ble_eq_true rfl⟩ (fun r22 h23 => ?_)
        have h23 : True := h23
        refine lv_aload_n hx hb dX6_layOut_37 rfl (lv_at hl 0 rfl) ?_
        refine lv_iconst (v := 1) hx hb dX6_layOut_38 (by decide) ?_
        refine lv_iload_n hx hb dX6_layOut_39 rfl (lv_at hl 2 rfl) ?_
        refine lv_ishl hx hb dX6_layOut_40 ?_
        have f24 : 1 ≤ ((1 : Int32) <<< (y21_3 &&& 31)).toInt ∧ ((1 : Int32) <<< (y21_3 &&& 31)).toInt ≤ 128 := shl1 rfl (by omega) 7 (by omega) (by decide)
        refine lv_iload_n hx hb dX6_layOut_41 rfl (lv_at hl 2 rfl) ?_
        refine rdV (As := [.int ((1 : Int32) <<< (y21_3 &&& 31)), .int y21_3]) (rest := [.int r22]) ⟨hx, hb, hml, hown, hts⟩ (k_X6_toComeAt l dC dI cI cZ cQ a sor_c4 ord sha_c8 toc_c12 mar tol ((1 : Int32) <<< (y21_3 &&& 31)) y21_3 h2_0 r_mar r_tol (by omega) (by omega) (by omega) (by omega)) (cwV 2 hts gX6_layOut_X6_toComeAt rfl rfl rfl (by decide +kernel) ⟨Nat.le_of_ble_eq_true rfl, Nat.le_of_ble_eq_true rfl⟩) hP hK hN [0, 1, 2, 3, 4, 5, 6, 7] rfl 0 6 rfl rfl rfl hl.1 rfl (Nat.le_of_ble_eq_true rfl) dX6_layOut_42 ⟨Nat.le_of_ble_eq_true rfl, Nat.le_of_ble_eq_true rfl⟩ (fun r25 h26 => ?_)
        have h26 : True := h26
        refine lv_icmp_ge (tgt := 51) hx hb dX6_layOut_45 (by decide) (fun c27 => ?_) (fun c27 => ?_)
        · have dc27 : r25.toInt ≤ r22.toInt := leC rfl rfl c27
          obtain ⟨z28, ez28⟩ : ∃ y : Int32, y = y21_4 + 1 := ⟨_, rfl⟩
          have iz28 : z28.toInt = y21_4.toInt + 1 := by rw [ez28]; exact addC rfl rfl (by omega) (by omega)
          refine lv_iinc (v := z28) (lv' := [(4, .int z28), (0, .ref (a 23)), (2, .int n), (3, .int y21_3)]) hx hb dX6_layOut_51 hl (k := 3) rfl (by rw [ez28]; rfl) (by decide) rfl (fun ls hl => ?_)
          refine lv_goto (tgt := 21) hx hb dX6_layOut_54 (by decide) ?_
          exact ih21 y21_3 z28 _ _ _ (by omega) (by omega) (by omega) (by omega) (by omega) hP hD hS (lv_sub hl [1, 2, 3, 0] rfl)
        · have dc27 : r22.toInt < r25.toInt := nleC rfl rfl c27
          refine lv_iload hx hb dX6_layOut_48 (lv_at hl 3 rfl) ?_
          refine lv_istore_n (lv' := [(3, .int y21_4), (0, .ref (a 23)), (2, .int n), (4, .int y21_4)]) hx hb dX6_layOut_50 rfl hl (by decide) rfl (fun ls hl => ?_)
          obtain ⟨z29, ez29⟩ : ∃ y : Int32, y = y21_4 + 1 := ⟨_, rfl⟩
          have iz29 : z29.toInt = y21_4.toInt + 1 := by rw [ez29]; exact addC rfl rfl (by omega) (by omega)
          refine lv_iinc (v := z29) (lv' := [(4, .int z29), (3, .int y21_4), (0, .ref (a 23)), (2, .int n)]) hx hb dX6_layOut_51 hl (k := 3) rfl (by rw [ez29]; rfl) (by decide) rfl (fun ls hl => ?_)
          refine lv_goto (tgt := 21) hx hb dX6_layOut_54 (by decide) ?_
          exact ih21 y21_4 z29 _ _ _ (by omega) (by omega) (by omega) (by omega) (by omega) hP hD hS (lv_sub hl [2, 3, 1, 0] rfl)
  have kc30 : (0 : Int32).toInt = 0 := rfl
  have kc31 : (1 : Int32).toInt = 1 := rfl
  exact L21 _ 0 1 _ _ _ (by omega) (by omega) (by omega) (by omega) (Nat.lt_succ_self _) hP hD hS (lv_sub hl [2, 4, 1, 0] rfl)
end
