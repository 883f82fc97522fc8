set_option maxRecDepth 20000 in
theorem ggX10_costOf_X10_doorsTo : GoodIn wsX10_costOf wsX10_doorsTo := goodIn_r _ [5, 6, 7, 8, 9, 15, 16, 17, 18, 19, 20, 21, 22, 23, 24, 25, 26, 27, 28, 29, 30, 31, 32, 33, 34, 35, 36, 37, 38, 39, 40, 41, 42, 43, 44, 45, 46, 47, 48, 49, 50, 51, 52, 53] rfl (by decide +kernel)
set_option maxRecDepth 20000 in
theorem gX10_costOf_X10_doorsTo : GoodIn wsX10_costOf (wsV RX10 108 RX10 yX10_doorsTo wsX10_doorsTo) := goodIn_app (goodIn_of _ (by decide +kernel)) ggX10_costOf_X10_doorsTo
set_option maxRecDepth 20000 in
theorem ggX10_costOf_X10_standIn : GoodIn wsX10_costOf wsX10_standIn := goodIn_r _ [13, 14, 15, 16, 17, 18, 19, 20, 21, 22, 23, 24, 25, 26, 27, 28, 29, 30, 31, 32, 33, 34, 35, 36, 37, 38, 39, 40, 41, 42, 43, 44, 45, 46, 47, 48, 49, 50, 51, 52, 53] rfl (by decide +kernel)
set_option maxRecDepth 20000 in
theorem gX10_costOf_X10_standIn : GoodIn wsX10_costOf (wsV RX10 213 RX10 yX10_standIn wsX10_standIn) := goodIn_app (goodIn_of _ (by decide +kernel)) ggX10_costOf_X10_standIn
set_option maxRecDepth 20000 in
theorem dqX10_costOf_p140 : dz_rn 0 (cX10_costOf.data.toList.drop 0) [(0, 4), (0, 8), (0, 1), (3, 1), (0, 20), (0, 2), (0, 13), (4, 2), (0, 13), (4, 0), (0, 14), (0, 2), (0, 23), (0, 4)] = some [(0, .aload_n 0, 1), (1, .iconst 0, 1), (2, .iload_n 1, 1), (3, .invokevirtual 108, 3), (6, .istore_n 2, 1), (7, .iload_n 2, 1), (8, .iconst (-1), 1), (9, .if_icmp .ne 7, 3), (12, .iconst (-1), 1), (13, .goto 12, 3), (16, .iconst 2, 1), (17, .iload_n 2, 1), (18, .imul, 1), (19, .aload_n 0, 1)] := by decide +kernel
theorem dX10_costOf_0 : decode cX10_costOf 0 = .ok (.aload_n 0, 1) := dz_at dqX10_costOf_p140 0 rfl
theorem dX10_costOf_1 : decode cX10_costOf 1 = .ok (.iconst 0, 1) := dz_at dqX10_costOf_p140 1 rfl
theorem dX10_costOf_2 : decode cX10_costOf 2 = .ok (.iload_n 1, 1) := dz_at dqX10_costOf_p140 2 rfl
theorem dX10_costOf_3 : decode cX10_costOf 3 = .ok (.invokevirtual 108, 3) := dz_at dqX10_costOf_p140 3 rfl
theorem dX10_costOf_6 : decode cX10_costOf 6 = .ok (.istore_n 2, 1) := dz_at dqX10_costOf_p140 4 rfl
theorem dX10_costOf_7 : decode cX10_costOf 7 = .ok (.iload_n 2, 1) := dz_at dqX10_costOf_p140 5 rfl
theorem dX10_costOf_8 : decode cX10_costOf 8 = .ok (.iconst (-1), 1) := dz_at dqX10_costOf_p140 6 rfl
theorem dX10_costOf_9 : decode cX10_costOf 9 = .ok (.if_icmp .ne 7, 3) := dz_at dqX10_costOf_p140 7 rfl
theorem dX10_costOf_12 : decode cX10_costOf 12 = .ok (.iconst (-1), 1) := dz_at dqX10_costOf_p140 8 rfl
theorem dX10_costOf_13 : decode cX10_costOf 13 = .ok (.goto 12, 3) := dz_at dqX10_costOf_p140 9 rfl
theorem dX10_costOf_16 : decode cX10_costOf 16 = .ok (.iconst 2, 1) := dz_at dqX10_costOf_p140 10 rfl
theorem dX10_costOf_17 : decode cX10_costOf 17 = .ok (.iload_n 2, 1) := dz_at dqX10_costOf_p140 11 rfl
theorem dX10_costOf_18 : decode cX10_costOf 18 = .ok (.imul, 1) := dz_at dqX10_costOf_p140 12 rfl
theorem dX10_costOf_19 : decode cX10_costOf 19 = .ok (.aload_n 0, 1) := dz_at dqX10_costOf_p140 13 rfl
set_option maxRecDepth 20000 in
theorem dqX10_costOf_p141 : dz_rn 20 (cX10_costOf.data.toList.drop 20) [(0, 1), (3, 1), (0, 11), (0, 12)] = some [(20, .iload_n 1, 1), (21, .invokevirtual 213, 3), (24, .iadd, 1), (25, .ireturn, 1)] := by decide +kernel
theorem dX10_costOf_20 : decode cX10_costOf 20 = .ok (.iload_n 1, 1) := dz_at dqX10_costOf_p141 0 rfl
theorem dX10_costOf_21 : decode cX10_costOf 21 = .ok (.invokevirtual 213, 3) := dz_at dqX10_costOf_p141 1 rfl
theorem dX10_costOf_24 : decode cX10_costOf 24 = .ok (.iadd, 1) := dz_at dqX10_costOf_p141 2 rfl
theorem dX10_costOf_25 : decode cX10_costOf 25 = .ok (.ireturn, 1) := dz_at dqX10_costOf_p141 3 rfl
set_option maxRecDepth 20000 in
theorem ggX10_cost_X10_isRoom : GoodIn wsX10_cost wsX10_isRoom := goodIn_r _ [4, 5, 6, 3, 7] rfl (by decide +kernel)
set_option maxRecDepth 20000 in
theorem gX10_cost_X10_isRoom : GoodIn wsX10_cost (va_wsS RX10 100 yX10_isRoom wsX10_isRoom) := goodIn_app (goodIn_of _ (by decide +kernel)) ggX10_cost_X10_isRoom
set_option maxRecDepth 20000 in
theorem ggX10_cost_X10_costOf : GoodIn wsX10_cost wsX10_costOf := goodIn_r _ [11, 12, 13, 14, 3, 15, 16, 17, 18, 19, 20, 21, 22, 23, 24, 25, 26, 27, 28, 29, 30, 31, 32, 33, 34, 35, 36, 37, 38, 39, 40, 41, 42, 43, 44, 45, 46, 47, 48, 49, 50, 51, 52, 53, 54, 55, 56, 57, 58, 59, 60, 61, 62, 63] rfl (by decide +kernel)
set_option maxRecDepth 20000 in
theorem gX10_cost_X10_costOf : GoodIn wsX10_cost (wsV RX10 242 RX10 yX10_costOf wsX10_costOf) := goodIn_app (goodIn_of _ (by decide +kernel)) ggX10_cost_X10_costOf
set_option maxRecDepth 20000 in
theorem dqX10_cost_p140 : dz_rn 0 (cX10_cost.data.toList.drop 0) [(0, 1), (3, 2), (4, 7), (0, 4), (0, 1), (3, 1), (4, 0), (2, 0), (0, 12)] = some [(0, .iload_n 1, 1), (1, .invokestatic 100, 3), (4, .ifCond .eq 11, 3), (7, .aload_n 0, 1), (8, .iload_n 1, 1), (9, .invokevirtual 242, 3), (12, .goto 5, 3), (15, .bipush (-2), 2), (17, .ireturn, 1)] := by decide +kernel
theorem dX10_cost_0 : decode cX10_cost 0 = .ok (.iload_n 1, 1) := dz_at dqX10_cost_p140 0 rfl
theorem dX10_cost_1 : decode cX10_cost 1 = .ok (.invokestatic 100, 3) := dz_at dqX10_cost_p140 1 rfl
theorem dX10_cost_4 : decode cX10_cost 4 = .ok (.ifCond .eq 11, 3) := dz_at dqX10_cost_p140 2 rfl
theorem dX10_cost_7 : decode cX10_cost 7 = .ok (.aload_n 0, 1) := dz_at dqX10_cost_p140 3 rfl
theorem dX10_cost_8 : decode cX10_cost 8 = .ok (.iload_n 1, 1) := dz_at dqX10_cost_p140 4 rfl
theorem dX10_cost_9 : decode cX10_cost 9 = .ok (.invokevirtual 242, 3) := dz_at dqX10_cost_p140 5 rfl
theorem dX10_cost_12 : decode cX10_cost 12 = .ok (.goto 5, 3) := dz_at dqX10_cost_p140 6 rfl
theorem dX10_cost_15 : decode cX10_cost 15 = .ok (.bipush (-2), 2) := dz_at dqX10_cost_p140 7 rfl
theorem dX10_cost_17 : decode cX10_cost 17 = .ok (.ireturn, 1) := dz_at dqX10_cost_p140 8 rfl
set_option maxRecDepth 20000 in
theorem ggX10_areMinutes_X10_in : GoodIn wsX10_areMinutes wsX10_in := goodIn_r _ [4] rfl (by decide +kernel)
set_option maxRecDepth 20000 in
theorem gX10_areMinutes_X10_in : GoodIn wsX10_areMinutes (va_wsS RX10 93 yX10_in wsX10_in) := goodIn_app (goodIn_of _ (by decide +kernel)) ggX10_areMinutes_X10_in
set_option maxRecDepth 20000 in
theorem dqX10_areMinutes_p140 : dz_rn 0 (cX10_areMinutes.data.toList.drop 0) [(0, 0), (0, 9), (0, 16), (3, 2), (0, 20), (0, 8), (0, 21), (0, 3), (0, 0), (4, 4), (0, 2), (4, 7), (0, 1), (2, 0)] = some [(0, .iload_n 0, 1), (1, .iconst 1, 1), (2, .iconst 4, 1), (3, .invokestatic 93, 3), (6, .istore_n 2, 1), (7, .iconst 0, 1), (8, .istore_n 3, 1), (9, .iload_n 3, 1), (10, .iload_n 0, 1), (11, .if_icmp .ge 33, 3), (14, .iload_n 2, 1), (15, .ifCond .eq 29, 3), (18, .iload_n 1, 1), (19, .bipush 7, 2)] := by decide +kernel
theorem dX10_areMinutes_0 : decode cX10_areMinutes 0 = .ok (.iload_n 0, 1) := dz_at dqX10_areMinutes_p140 0 rfl
theorem dX10_areMinutes_1 : decode cX10_areMinutes 1 = .ok (.iconst 1, 1) := dz_at dqX10_areMinutes_p140 1 rfl
theorem dX10_areMinutes_2 : decode cX10_areMinutes 2 = .ok (.iconst 4, 1) := dz_at dqX10_areMinutes_p140 2 rfl
theorem dX10_areMinutes_3 : decode cX10_areMinutes 3 = .ok (.invokestatic 93, 3) := dz_at dqX10_areMinutes_p140 3 rfl
theorem dX10_areMinutes_6 : decode cX10_areMinutes 6 = .ok (.istore_n 2, 1) := dz_at dqX10_areMinutes_p140 4 rfl
theorem dX10_areMinutes_7 : decode cX10_areMinutes 7 = .ok (.iconst 0, 1) := dz_at dqX10_areMinutes_p140 5 rfl
theorem dX10_areMinutes_8 : decode cX10_areMinutes 8 = .ok (.istore_n 3, 1) := dz_at dqX10_areMinutes_p140 6 rfl
theorem dX10_areMinutes_9 : decode cX10_areMinutes 9 = .ok (.iload_n 3, 1) := dz_at dqX10_areMinutes_p140 7 rfl
theorem dX10_areMinutes_10 : decode cX10_areMinutes 10 = .ok (.iload_n 0, 1) := dz_at dqX10_areMinutes_p140 8 rfl
theorem dX10_areMinutes_11 : decode cX10_areMinutes 11 = .ok (.if_icmp .ge 33, 3) := dz_at dqX10_areMinutes_p140 9 rfl
theorem dX10_areMinutes_14 : decode cX10_areMinutes 14 = .ok (.iload_n 2, 1) := dz_at dqX10_areMinutes_p140 10 rfl
theorem dX10_areMinutes_15 : decode cX10_areMinutes 15 = .ok (.ifCond .eq 29, 3) := dz_at dqX10_areMinutes_p140 11 rfl
theorem dX10_areMinutes_18 : decode cX10_areMinutes 18 = .ok (.iload_n 1, 1) := dz_at dqX10_areMinutes_p140 12 rfl
theorem dX10_areMinutes_19 : decode cX10_areMinutes 19 = .ok (.bipush 7, 2) := dz_at dqX10_areMinutes_p140 13 rfl
set_option maxRecDepth 20000 in
theorem dqX10_areMinutes_p141 : dz_rn 21 (cX10_areMinutes.data.toList.drop 21) [(0, 3), (0, 23), (0, 32), (2, 0), (0, 29), (2, 0), (4, 4), (0, 9), (4, 0), (0, 8), (0, 20), (5, 0), (4, 0), (0, 2)] = some [(21, .iload_n 3, 1), (22, .imul, 1), (23, .ishr, 1), (24, .bipush 127, 2), (26, .iand, 1), (27, .bipush 100, 2), (29, .if_icmp .ge 7, 3), (32, .iconst 1, 1), (33, .goto 4, 3), (36, .iconst 0, 1), (37, .istore_n 2, 1), (38, .iinc 3 1, 3), (41, .goto (-32), 3), (44, .iload_n 2, 1)] := by decide +kernel
theorem dX10_areMinutes_21 : decode cX10_areMinutes 21 = .ok (.iload_n 3, 1) := dz_at dqX10_areMinutes_p141 0 rfl
theorem dX10_areMinutes_22 : decode cX10_areMinutes 22 = .ok (.imul, 1) := dz_at dqX10_areMinutes_p141 1 rfl
theorem dX10_areMinutes_23 : decode cX10_areMinutes 23 = .ok (.ishr, 1) := dz_at dqX10_areMinutes_p141 2 rfl
theorem dX10_areMinutes_24 : decode cX10_areMinutes 24 = .ok (.bipush 127, 2) := dz_at dqX10_areMinutes_p141 3 rfl
theorem dX10_areMinutes_26 : decode cX10_areMinutes 26 = .ok (.iand, 1) := dz_at dqX10_areMinutes_p141 4 rfl
theorem dX10_areMinutes_27 : decode cX10_areMinutes 27 = .ok (.bipush 100, 2) := dz_at dqX10_areMinutes_p141 5 rfl
theorem dX10_areMinutes_29 : decode cX10_areMinutes 29 = .ok (.if_icmp .ge 7, 3) := dz_at dqX10_areMinutes_p141 6 rfl
theorem dX10_areMinutes_32 : decode cX10_areMinutes 32 = .ok (.iconst 1, 1) := dz_at dqX10_areMinutes_p141 7 rfl
theorem dX10_areMinutes_33 : decode cX10_areMinutes 33 = .ok (.goto 4, 3) := dz_at dqX10_areMinutes_p141 8 rfl
theorem dX10_areMinutes_36 : decode cX10_areMinutes 36 = .ok (.iconst 0, 1) := dz_at dqX10_areMinutes_p141 9 rfl
theorem dX10_areMinutes_37 : decode cX10_areMinutes 37 = .ok (.istore_n 2, 1) := dz_at dqX10_areMinutes_p141 10 rfl
theorem dX10_areMinutes_38 : decode cX10_areMinutes 38 = .ok (.iinc 3 1, 3) := dz_at dqX10_areMinutes_p141 11 rfl
theorem dX10_areMinutes_41 : decode cX10_areMinutes 41 = .ok (.goto (-32), 3) := dz_at dqX10_areMinutes_p141 12 rfl
theorem dX10_areMinutes_44 : decode cX10_areMinutes 44 = .ok (.iload_n 2, 1) := dz_at dqX10_areMinutes_p141 13 rfl
theorem dX10_areMinutes_45 : decode cX10_areMinutes 45 = .ok (.ireturn, 1) := by decide +kernel
set_option maxRecDepth 20000 in
theorem ggX10_isGone_X10_costOf : GoodIn wsX10_isGone wsX10_costOf := goodIn_r _ [7, 8, 9, 10, 6, 11, 12, 13, 14, 15, 16, 17, 18, 19, 20, 41, 42, 43, 44, 45, 46, 47, 48, 49, 50, 51, 52, 53, 54, 55, 56, 57, 58, 59, 60, 61, 62, 63, 64, 65, 66, 67, 68, 69, 70, 71, 72, 73, 74, 75, 76, 77, 78, 79] rfl (by decide +kernel)
set_option maxRecDepth 20000 in
theorem gX10_isGone_X10_costOf : GoodIn wsX10_isGone (wsV RX10 242 RX10 yX10_costOf wsX10_costOf) := goodIn_app (goodIn_of _ (by decide +kernel)) ggX10_isGone_X10_costOf
set_option maxRecDepth 20000 in
theorem ggX10_isGone_X10_goWalk : GoodIn wsX10_isGone wsX10_goWalk := goodIn_r _ [24, 20, 1, 25, 41, 42, 43, 44, 45, 46, 47, 48, 49, 50, 51, 52, 53, 54, 55, 56, 57, 58, 59, 60, 61, 62, 63, 64, 65, 66, 67, 68, 69, 70, 71, 72, 73, 74, 75, 76, 77, 78, 79] rfl (by decide +kernel)
set_option maxRecDepth 20000 in
theorem gX10_isGone_X10_goWalk : GoodIn wsX10_isGone (wsV RX10 138 RX10 yX10_goWalk wsX10_goWalk) := goodIn_app (goodIn_of _ (by decide +kernel)) ggX10_isGone_X10_goWalk
set_option maxRecDepth 20000 in
theorem ggX10_isGone_X10_goDay : GoodIn wsX10_isGone wsX10_goDay := goodIn_r _ [29, 1, 2, 20, 30, 31, 32, 33, 6, 34, 35, 36, 37, 38, 39, 40, 41, 42, 43, 44, 45, 46, 47, 48, 49, 50, 51, 52, 53, 54, 55, 56, 57, 58, 59, 60, 61, 62, 63, 64, 65, 66, 67, 68, 69, 70, 71, 72, 73, 74, 75, 76, 77, 78, 79] rfl (by decide +kernel)
set_option maxRecDepth 20000 in
theorem gX10_isGone_X10_goDay : GoodIn wsX10_isGone (wsV RX10 134 RX10 yX10_goDay wsX10_goDay) := goodIn_app (goodIn_of _ (by decide +kernel)) ggX10_isGone_X10_goDay
set_option maxRecDepth 20000 in
theorem dqX10_isGone_p140 : dz_rn 0 (cX10_isGone.data.toList.drop 0) [(0, 8), (1, 1), (1, 0), (2, 0), (4, 4), (0, 4), (3, 0), (2, 0), (0, 1), (0, 23), (2, 0), (0, 11), (1, 0), (0, 11)] = some [(0, .iconst 0, 1), (1, .istore 4, 2), (3, .iload 4, 2), (5, .bipush 48, 2), (7, .if_icmp .ge 63, 3), (10, .aload_n 0, 1), (11, .getfield 50, 3), (14, .bipush 48, 2), (16, .iload_n 1, 1), (17, .imul, 1), (18, .bipush 48, 2), (20, .iadd, 1), (21, .iload 4, 2), (23, .iadd, 1)] := by decide +kernel
theorem dX10_isGone_0 : decode cX10_isGone 0 = .ok (.iconst 0, 1) := dz_at dqX10_isGone_p140 0 rfl
theorem dX10_isGone_1 : decode cX10_isGone 1 = .ok (.istore 4, 2) := dz_at dqX10_isGone_p140 1 rfl
theorem dX10_isGone_3 : decode cX10_isGone 3 = .ok (.iload 4, 2) := dz_at dqX10_isGone_p140 2 rfl
theorem dX10_isGone_5 : decode cX10_isGone 5 = .ok (.bipush 48, 2) := dz_at dqX10_isGone_p140 3 rfl
theorem dX10_isGone_7 : decode cX10_isGone 7 = .ok (.if_icmp .ge 63, 3) := dz_at dqX10_isGone_p140 4 rfl
theorem dX10_isGone_10 : decode cX10_isGone 10 = .ok (.aload_n 0, 1) := dz_at dqX10_isGone_p140 5 rfl
theorem dX10_isGone_11 : decode cX10_isGone 11 = .ok (.getfield 50, 3) := dz_at dqX10_isGone_p140 6 rfl
theorem dX10_isGone_14 : decode cX10_isGone 14 = .ok (.bipush 48, 2) := dz_at dqX10_isGone_p140 7 rfl
theorem dX10_isGone_16 : decode cX10_isGone 16 = .ok (.iload_n 1, 1) := dz_at dqX10_isGone_p140 8 rfl
theorem dX10_isGone_17 : decode cX10_isGone 17 = .ok (.imul, 1) := dz_at dqX10_isGone_p140 9 rfl
theorem dX10_isGone_18 : decode cX10_isGone 18 = .ok (.bipush 48, 2) := dz_at dqX10_isGone_p140 10 rfl
theorem dX10_isGone_20 : decode cX10_isGone 20 = .ok (.iadd, 1) := dz_at dqX10_isGone_p140 11 rfl
theorem dX10_isGone_21 : decode cX10_isGone 21 = .ok (.iload 4, 2) := dz_at dqX10_isGone_p140 12 rfl
theorem dX10_isGone_23 : decode cX10_isGone 23 = .ok (.iadd, 1) := dz_at dqX10_isGone_p140 13 rfl
set_option maxRecDepth 20000 in
theorem dqX10_isGone_p141 : dz_rn 24 (cX10_isGone.data.toList.drop 24) [(0, 4), (3, 0), (2, 0), (0, 1), (0, 23), (1, 0), (0, 11), (0, 10), (0, 22), (0, 4), (3, 0), (2, 0), (0, 1), (0, 23)] = some [(24, .aload_n 0, 1), (25, .getfield 50, 3), (28, .bipush 48, 2), (30, .iload_n 1, 1), (31, .imul, 1), (32, .iload 4, 2), (34, .iadd, 1), (35, .iaload, 1), (36, .iastore, 1), (37, .aload_n 0, 1), (38, .getfield 53, 3), (41, .bipush 48, 2), (43, .iload_n 1, 1), (44, .imul, 1)] := by decide +kernel
theorem dX10_isGone_24 : decode cX10_isGone 24 = .ok (.aload_n 0, 1) := dz_at dqX10_isGone_p141 0 rfl
theorem dX10_isGone_25 : decode cX10_isGone 25 = .ok (.getfield 50, 3) := dz_at dqX10_isGone_p141 1 rfl
theorem dX10_isGone_28 : decode cX10_isGone 28 = .ok (.bipush 48, 2) := dz_at dqX10_isGone_p141 2 rfl
theorem dX10_isGone_30 : decode cX10_isGone 30 = .ok (.iload_n 1, 1) := dz_at dqX10_isGone_p141 3 rfl
theorem dX10_isGone_31 : decode cX10_isGone 31 = .ok (.imul, 1) := dz_at dqX10_isGone_p141 4 rfl
theorem dX10_isGone_32 : decode cX10_isGone 32 = .ok (.iload 4, 2) := dz_at dqX10_isGone_p141 5 rfl
theorem dX10_isGone_34 : decode cX10_isGone 34 = .ok (.iadd, 1) := dz_at dqX10_isGone_p141 6 rfl
theorem dX10_isGone_35 : decode cX10_isGone 35 = .ok (.iaload, 1) := dz_at dqX10_isGone_p141 7 rfl
theorem dX10_isGone_36 : decode cX10_isGone 36 = .ok (.iastore, 1) := dz_at dqX10_isGone_p141 8 rfl
theorem dX10_isGone_37 : decode cX10_isGone 37 = .ok (.aload_n 0, 1) := dz_at dqX10_isGone_p141 9 rfl
theorem dX10_isGone_38 : decode cX10_isGone 38 = .ok (.getfield 53, 3) := dz_at dqX10_isGone_p141 10 rfl
theorem dX10_isGone_41 : decode cX10_isGone 41 = .ok (.bipush 48, 2) := dz_at dqX10_isGone_p141 11 rfl
theorem dX10_isGone_43 : decode cX10_isGone 43 = .ok (.iload_n 1, 1) := dz_at dqX10_isGone_p141 12 rfl
theorem dX10_isGone_44 : decode cX10_isGone 44 = .ok (.imul, 1) := dz_at dqX10_isGone_p141 13 rfl
set_option maxRecDepth 20000 in
theorem dqX10_isGone_p142 : dz_rn 45 (cX10_isGone.data.toList.drop 45) [(2, 0), (0, 11), (1, 0), (0, 11), (0, 4), (3, 0), (2, 0), (0, 1), (0, 23), (1, 0), (0, 11), (0, 10), (0, 22), (5, 0)] = some [(45, .bipush 48, 2), (47, .iadd, 1), (48, .iload 4, 2), (50, .iadd, 1), (51, .aload_n 0, 1), (52, .getfield 53, 3), (55, .bipush 48, 2), (57, .iload_n 1, 1), (58, .imul, 1), (59, .iload 4, 2), (61, .iadd, 1), (62, .iaload, 1), (63, .iastore, 1), (64, .iinc 4 1, 3)] := by decide +kernel
theorem dX10_isGone_45 : decode cX10_isGone 45 = .ok (.bipush 48, 2) := dz_at dqX10_isGone_p142 0 rfl
theorem dX10_isGone_47 : decode cX10_isGone 47 = .ok (.iadd, 1) := dz_at dqX10_isGone_p142 1 rfl
theorem dX10_isGone_48 : decode cX10_isGone 48 = .ok (.iload 4, 2) := dz_at dqX10_isGone_p142 2 rfl
theorem dX10_isGone_50 : decode cX10_isGone 50 = .ok (.iadd, 1) := dz_at dqX10_isGone_p142 3 rfl
theorem dX10_isGone_51 : decode cX10_isGone 51 = .ok (.aload_n 0, 1) := dz_at dqX10_isGone_p142 4 rfl
theorem dX10_isGone_52 : decode cX10_isGone 52 = .ok (.getfield 53, 3) := dz_at dqX10_isGone_p142 5 rfl
theorem dX10_isGone_55 : decode cX10_isGone 55 = .ok (.bipush 48, 2) := dz_at dqX10_isGone_p142 6 rfl
theorem dX10_isGone_57 : decode cX10_isGone 57 = .ok (.iload_n 1, 1) := dz_at dqX10_isGone_p142 7 rfl
theorem dX10_isGone_58 : decode cX10_isGone 58 = .ok (.imul, 1) := dz_at dqX10_isGone_p142 8 rfl
theorem dX10_isGone_59 : decode cX10_isGone 59 = .ok (.iload 4, 2) := dz_at dqX10_isGone_p142 9 rfl
theorem dX10_isGone_61 : decode cX10_isGone 61 = .ok (.iadd, 1) := dz_at dqX10_isGone_p142 10 rfl
theorem dX10_isGone_62 : decode cX10_isGone 62 = .ok (.iaload, 1) := dz_at dqX10_isGone_p142 11 rfl
theorem dX10_isGone_63 : decode cX10_isGone 63 = .ok (.iastore, 1) := dz_at dqX10_isGone_p142 12 rfl
theorem dX10_isGone_64 : decode cX10_isGone 64 = .ok (.iinc 4 1, 3) := dz_at dqX10_isGone_p142 13 rfl
set_option maxRecDepth 20000 in
theorem dqX10_isGone_p143 : dz_rn 67 (cX10_isGone.data.toList.drop 67) [(4, 0), (0, 2), (2, 0), (4, 2), (0, 8), (4, 0), (0, 4), (0, 2), (3, 1), (1, 1), (1, 0), (0, 13), (4, 1), (1, 0)] = some [(67, .goto (-64), 3), (70, .iload_n 2, 1), (71, .bipush 8, 2), (73, .if_icmp .ne 7, 3), (76, .iconst 0, 1), (77, .goto 8, 3), (80, .aload_n 0, 1), (81, .iload_n 2, 1), (82, .invokevirtual 242, 3), (85, .istore 4, 2), (87, .iload 4, 2), (89, .iconst (-1), 1), (90, .if_icmp .eq 23, 3), (93, .iload 4, 2)] := by decide +kernel
theorem dX10_isGone_67 : decode cX10_isGone 67 = .ok (.goto (-64), 3) := dz_at dqX10_isGone_p143 0 rfl
theorem dX10_isGone_70 : decode cX10_isGone 70 = .ok (.iload_n 2, 1) := dz_at dqX10_isGone_p143 1 rfl
theorem dX10_isGone_71 : decode cX10_isGone 71 = .ok (.bipush 8, 2) := dz_at dqX10_isGone_p143 2 rfl
theorem dX10_isGone_73 : decode cX10_isGone 73 = .ok (.if_icmp .ne 7, 3) := dz_at dqX10_isGone_p143 3 rfl
theorem dX10_isGone_76 : decode cX10_isGone 76 = .ok (.iconst 0, 1) := dz_at dqX10_isGone_p143 4 rfl
theorem dX10_isGone_77 : decode cX10_isGone 77 = .ok (.goto 8, 3) := dz_at dqX10_isGone_p143 5 rfl
theorem dX10_isGone_80 : decode cX10_isGone 80 = .ok (.aload_n 0, 1) := dz_at dqX10_isGone_p143 6 rfl
theorem dX10_isGone_81 : decode cX10_isGone 81 = .ok (.iload_n 2, 1) := dz_at dqX10_isGone_p143 7 rfl
theorem dX10_isGone_82 : decode cX10_isGone 82 = .ok (.invokevirtual 242, 3) := dz_at dqX10_isGone_p143 8 rfl
theorem dX10_isGone_85 : decode cX10_isGone 85 = .ok (.istore 4, 2) := dz_at dqX10_isGone_p143 9 rfl
theorem dX10_isGone_87 : decode cX10_isGone 87 = .ok (.iload 4, 2) := dz_at dqX10_isGone_p143 10 rfl
theorem dX10_isGone_89 : decode cX10_isGone 89 = .ok (.iconst (-1), 1) := dz_at dqX10_isGone_p143 11 rfl
theorem dX10_isGone_90 : decode cX10_isGone 90 = .ok (.if_icmp .eq 23, 3) := dz_at dqX10_isGone_p143 12 rfl
theorem dX10_isGone_93 : decode cX10_isGone 93 = .ok (.iload 4, 2) := dz_at dqX10_isGone_p143 13 rfl
set_option maxRecDepth 20000 in
theorem dqX10_isGone_p144 : dz_rn 95 (cX10_isGone.data.toList.drop 95) [(0, 3), (2, 0), (0, 1), (0, 23), (0, 32), (2, 0), (0, 29), (4, 6), (0, 2), (2, 0), (4, 4), (0, 8), (0, 12), (0, 2)] = some [(95, .iload_n 3, 1), (96, .bipush 7, 2), (98, .iload_n 1, 1), (99, .imul, 1), (100, .ishr, 1), (101, .bipush 127, 2), (103, .iand, 1), (104, .if_icmp .le 11, 3), (107, .iload_n 2, 1), (108, .bipush 8, 2), (110, .if_icmp .ge 5, 3), (113, .iconst 0, 1), (114, .ireturn, 1), (115, .iload_n 2, 1)] := by decide +kernel
theorem dX10_isGone_95 : decode cX10_isGone 95 = .ok (.iload_n 3, 1) := dz_at dqX10_isGone_p144 0 rfl
theorem dX10_isGone_96 : decode cX10_isGone 96 = .ok (.bipush 7, 2) := dz_at dqX10_isGone_p144 1 rfl
theorem dX10_isGone_98 : decode cX10_isGone 98 = .ok (.iload_n 1, 1) := dz_at dqX10_isGone_p144 2 rfl
theorem dX10_isGone_99 : decode cX10_isGone 99 = .ok (.imul, 1) := dz_at dqX10_isGone_p144 3 rfl
theorem dX10_isGone_100 : decode cX10_isGone 100 = .ok (.ishr, 1) := dz_at dqX10_isGone_p144 4 rfl
theorem dX10_isGone_101 : decode cX10_isGone 101 = .ok (.bipush 127, 2) := dz_at dqX10_isGone_p144 5 rfl
theorem dX10_isGone_103 : decode cX10_isGone 103 = .ok (.iand, 1) := dz_at dqX10_isGone_p144 6 rfl
theorem dX10_isGone_104 : decode cX10_isGone 104 = .ok (.if_icmp .le 11, 3) := dz_at dqX10_isGone_p144 7 rfl
theorem dX10_isGone_107 : decode cX10_isGone 107 = .ok (.iload_n 2, 1) := dz_at dqX10_isGone_p144 8 rfl
theorem dX10_isGone_108 : decode cX10_isGone 108 = .ok (.bipush 8, 2) := dz_at dqX10_isGone_p144 9 rfl
theorem dX10_isGone_110 : decode cX10_isGone 110 = .ok (.if_icmp .ge 5, 3) := dz_at dqX10_isGone_p144 10 rfl
theorem dX10_isGone_113 : decode cX10_isGone 113 = .ok (.iconst 0, 1) := dz_at dqX10_isGone_p144 11 rfl
theorem dX10_isGone_114 : decode cX10_isGone 114 = .ok (.ireturn, 1) := dz_at dqX10_isGone_p144 12 rfl
theorem dX10_isGone_115 : decode cX10_isGone 115 = .ok (.iload_n 2, 1) := dz_at dqX10_isGone_p144 13 rfl
set_option maxRecDepth 20000 in
theorem dqX10_isGone_p145 : dz_rn 116 (cX10_isGone.data.toList.drop 116) [(2, 0), (4, 4), (0, 4), (0, 2), (2, 0), (0, 1), (0, 23), (2, 0), (0, 11), (3, 1), (0, 24), (0, 4), (2, 0), (0, 1)] = some [(116, .bipush 8, 2), (118, .if_icmp .ge 16, 3), (121, .aload_n 0, 1), (122, .iload_n 2, 1), (123, .bipush 48, 2), (125, .iload_n 1, 1), (126, .imul, 1), (127, .bipush 48, 2), (129, .iadd, 1), (130, .invokevirtual 138, 3), (133, .pop, 1), (134, .aload_n 0, 1), (135, .bipush 48, 2), (137, .iload_n 1, 1)] := by decide +kernel
theorem dX10_isGone_116 : decode cX10_isGone 116 = .ok (.bipush 8, 2) := dz_at dqX10_isGone_p145 0 rfl
theorem dX10_isGone_118 : decode cX10_isGone 118 = .ok (.if_icmp .ge 16, 3) := dz_at dqX10_isGone_p145 1 rfl
theorem dX10_isGone_121 : decode cX10_isGone 121 = .ok (.aload_n 0, 1) := dz_at dqX10_isGone_p145 2 rfl
theorem dX10_isGone_122 : decode cX10_isGone 122 = .ok (.iload_n 2, 1) := dz_at dqX10_isGone_p145 3 rfl
theorem dX10_isGone_123 : decode cX10_isGone 123 = .ok (.bipush 48, 2) := dz_at dqX10_isGone_p145 4 rfl
theorem dX10_isGone_125 : decode cX10_isGone 125 = .ok (.iload_n 1, 1) := dz_at dqX10_isGone_p145 5 rfl
theorem dX10_isGone_126 : decode cX10_isGone 126 = .ok (.imul, 1) := dz_at dqX10_isGone_p145 6 rfl
theorem dX10_isGone_127 : decode cX10_isGone 127 = .ok (.bipush 48, 2) := dz_at dqX10_isGone_p145 7 rfl
theorem dX10_isGone_129 : decode cX10_isGone 129 = .ok (.iadd, 1) := dz_at dqX10_isGone_p145 8 rfl
theorem dX10_isGone_130 : decode cX10_isGone 130 = .ok (.invokevirtual 138, 3) := dz_at dqX10_isGone_p145 9 rfl
theorem dX10_isGone_133 : decode cX10_isGone 133 = .ok (.pop, 1) := dz_at dqX10_isGone_p145 10 rfl
theorem dX10_isGone_134 : decode cX10_isGone 134 = .ok (.aload_n 0, 1) := dz_at dqX10_isGone_p145 11 rfl
theorem dX10_isGone_135 : decode cX10_isGone 135 = .ok (.bipush 48, 2) := dz_at dqX10_isGone_p145 12 rfl
theorem dX10_isGone_137 : decode cX10_isGone 137 = .ok (.iload_n 1, 1) := dz_at dqX10_isGone_p145 13 rfl
set_option maxRecDepth 20000 in
theorem dqX10_isGone_p146 : dz_rn 138 (cX10_isGone.data.toList.drop 138) [(0, 23), (2, 0), (0, 11), (2, 0), (0, 1), (0, 23), (2, 0), (0, 11), (3, 1), (0, 9), (0, 12)] = some [(138, .imul, 1), (139, .bipush 48, 2), (141, .iadd, 1), (142, .bipush 48, 2), (144, .iload_n 1, 1), (145, .imul, 1), (146, .bipush 48, 2), (148, .iadd, 1), (149, .invokevirtual 134, 3), (152, .iconst 1, 1), (153, .ireturn, 1)] := by decide +kernel
theorem dX10_isGone_138 : decode cX10_isGone 138 = .ok (.imul, 1) := dz_at dqX10_isGone_p146 0 rfl
theorem dX10_isGone_139 : decode cX10_isGone 139 = .ok (.bipush 48, 2) := dz_at dqX10_isGone_p146 1 rfl
theorem dX10_isGone_141 : decode cX10_isGone 141 = .ok (.iadd, 1) := dz_at dqX10_isGone_p146 2 rfl
theorem dX10_isGone_142 : decode cX10_isGone 142 = .ok (.bipush 48, 2) := dz_at dqX10_isGone_p146 3 rfl
theorem dX10_isGone_144 : decode cX10_isGone 144 = .ok (.iload_n 1, 1) := dz_at dqX10_isGone_p146 4 rfl
theorem dX10_isGone_145 : decode cX10_isGone 145 = .ok (.imul, 1) := dz_at dqX10_isGone_p146 5 rfl
theorem dX10_isGone_146 : decode cX10_isGone 146 = .ok (.bipush 48, 2) := dz_at dqX10_isGone_p146 6 rfl
theorem dX10_isGone_148 : decode cX10_isGone 148 = .ok (.iadd, 1) := dz_at dqX10_isGone_p146 7 rfl
theorem dX10_isGone_149 : decode cX10_isGone 149 = .ok (.invokevirtual 134, 3) := dz_at dqX10_isGone_p146 8 rfl
theorem dX10_isGone_152 : decode cX10_isGone 152 = .ok (.iconst 1, 1) := dz_at dqX10_isGone_p146 9 rfl
theorem dX10_isGone_153 : decode cX10_isGone 153 = .ok (.ireturn, 1) := dz_at dqX10_isGone_p146 10 rfl
set_option maxRecDepth 20000 in
theorem dqX10_allAt_p140 : dz_rn 0 (cX10_allAt.data.toList.drop 0) [(0, 8), (0, 20), (0, 8), (0, 21), (0, 3), (2, 0), (4, 4), (0, 2), (0, 4), (3, 0), (0, 3), (0, 10), (0, 13), (4, 2)] = some [(0, .iconst 0, 1), (1, .istore_n 2, 1), (2, .iconst 0, 1), (3, .istore_n 3, 1), (4, .iload_n 3, 1), (5, .bipush 48, 2), (7, .if_icmp .ge 34, 3), (10, .iload_n 2, 1), (11, .aload_n 0, 1), (12, .getfield 32, 3), (15, .iload_n 3, 1), (16, .iaload, 1), (17, .iconst (-1), 1), (18, .if_icmp .ne 7, 3)] := by decide +kernel
theorem dX10_allAt_0 : decode cX10_allAt 0 = .ok (.iconst 0, 1) := dz_at dqX10_allAt_p140 0 rfl
theorem dX10_allAt_1 : decode cX10_allAt 1 = .ok (.istore_n 2, 1) := dz_at dqX10_allAt_p140 1 rfl
theorem dX10_allAt_2 : decode cX10_allAt 2 = .ok (.iconst 0, 1) := dz_at dqX10_allAt_p140 2 rfl
theorem dX10_allAt_3 : decode cX10_allAt 3 = .ok (.istore_n 3, 1) := dz_at dqX10_allAt_p140 3 rfl
theorem dX10_allAt_4 : decode cX10_allAt 4 = .ok (.iload_n 3, 1) := dz_at dqX10_allAt_p140 4 rfl
theorem dX10_allAt_5 : decode cX10_allAt 5 = .ok (.bipush 48, 2) := dz_at dqX10_allAt_p140 5 rfl
theorem dX10_allAt_7 : decode cX10_allAt 7 = .ok (.if_icmp .ge 34, 3) := dz_at dqX10_allAt_p140 6 rfl
theorem dX10_allAt_10 : decode cX10_allAt 10 = .ok (.iload_n 2, 1) := dz_at dqX10_allAt_p140 7 rfl
theorem dX10_allAt_11 : decode cX10_allAt 11 = .ok (.aload_n 0, 1) := dz_at dqX10_allAt_p140 8 rfl
theorem dX10_allAt_12 : decode cX10_allAt 12 = .ok (.getfield 32, 3) := dz_at dqX10_allAt_p140 9 rfl
theorem dX10_allAt_15 : decode cX10_allAt 15 = .ok (.iload_n 3, 1) := dz_at dqX10_allAt_p140 10 rfl
theorem dX10_allAt_16 : decode cX10_allAt 16 = .ok (.iaload, 1) := dz_at dqX10_allAt_p140 11 rfl
theorem dX10_allAt_17 : decode cX10_allAt 17 = .ok (.iconst (-1), 1) := dz_at dqX10_allAt_p140 12 rfl
theorem dX10_allAt_18 : decode cX10_allAt 18 = .ok (.if_icmp .ne 7, 3) := dz_at dqX10_allAt_p140 13 rfl
set_option maxRecDepth 20000 in
theorem dqX10_allAt_p141 : dz_rn 21 (cX10_allAt.data.toList.drop 21) [(0, 8), (4, 0), (0, 4), (3, 0), (0, 1), (0, 3), (0, 11), (0, 10), (0, 11), (0, 20), (5, 0), (4, 0), (0, 2), (0, 12)] = some [(21, .iconst 0, 1), (22, .goto 11, 3), (25, .aload_n 0, 1), (26, .getfield 50, 3), (29, .iload_n 1, 1), (30, .iload_n 3, 1), (31, .iadd, 1), (32, .iaload, 1), (33, .iadd, 1), (34, .istore_n 2, 1), (35, .iinc 3 1, 3), (38, .goto (-34), 3), (41, .iload_n 2, 1), (42, .ireturn, 1)] := by decide +kernel
theorem dX10_allAt_21 : decode cX10_allAt 21 = .ok (.iconst 0, 1) := dz_at dqX10_allAt_p141 0 rfl
theorem dX10_allAt_22 : decode cX10_allAt 22 = .ok (.goto 11, 3) := dz_at dqX10_allAt_p141 1 rfl
theorem dX10_allAt_25 : decode cX10_allAt 25 = .ok (.aload_n 0, 1) := dz_at dqX10_allAt_p141 2 rfl
theorem dX10_allAt_26 : decode cX10_allAt 26 = .ok (.getfield 50, 3) := dz_at dqX10_allAt_p141 3 rfl
theorem dX10_allAt_29 : decode cX10_allAt 29 = .ok (.iload_n 1, 1) := dz_at dqX10_allAt_p141 4 rfl
theorem dX10_allAt_30 : decode cX10_allAt 30 = .ok (.iload_n 3, 1) := dz_at dqX10_allAt_p141 5 rfl
theorem dX10_allAt_31 : decode cX10_allAt 31 = .ok (.iadd, 1) := dz_at dqX10_allAt_p141 6 rfl
theorem dX10_allAt_32 : decode cX10_allAt 32 = .ok (.iaload, 1) := dz_at dqX10_allAt_p141 7 rfl
theorem dX10_allAt_33 : decode cX10_allAt 33 = .ok (.iadd, 1) := dz_at dqX10_allAt_p141 8 rfl
theorem dX10_allAt_34 : decode cX10_allAt 34 = .ok (.istore_n 2, 1) := dz_at dqX10_allAt_p141 9 rfl
theorem dX10_allAt_35 : decode cX10_allAt 35 = .ok (.iinc 3 1, 3) := dz_at dqX10_allAt_p141 10 rfl
theorem dX10_allAt_38 : decode cX10_allAt 38 = .ok (.goto (-34), 3) := dz_at dqX10_allAt_p141 11 rfl
theorem dX10_allAt_41 : decode cX10_allAt 41 = .ok (.iload_n 2, 1) := dz_at dqX10_allAt_p141 12 rfl
theorem dX10_allAt_42 : decode cX10_allAt 42 = .ok (.ireturn, 1) := dz_at dqX10_allAt_p141 13 rfl
set_option maxRecDepth 20000 in
theorem ggX10_plan_X10_areMinutes : GoodIn wsX10_plan wsX10_areMinutes := goodIn_r _ [6, 7, 8, 5, 9] rfl (by decide +kernel)
set_option maxRecDepth 20000 in
theorem gX10_plan_X10_areMinutes : GoodIn wsX10_plan (va_wsS RX10 245 yX10_areMinutes wsX10_areMinutes) := goodIn_app (goodIn_of _ (by decide +kernel)) ggX10_plan_X10_areMinutes
set_option maxRecDepth 20000 in
theorem ggX10_plan_X10_in : GoodIn wsX10_plan wsX10_in := goodIn_r _ [9] rfl (by decide +kernel)
set_option maxRecDepth 20000 in
theorem gX10_plan_X10_in : GoodIn wsX10_plan (va_wsS RX10 93 yX10_in wsX10_in) := goodIn_app (goodIn_of _ (by decide +kernel)) ggX10_plan_X10_in
set_option maxRecDepth 20000 in
theorem ggX10_plan_X10_lookAhead : GoodIn wsX10_plan wsX10_lookAhead := goodIn_r _ [13, 14, 15, 16, 17, 18, 19, 64, 65, 66, 67, 68, 69, 70, 71, 72, 73, 74, 75, 76, 77, 78, 79, 80, 81, 82, 83, 84, 85, 86, 87, 88, 89, 90, 91, 92, 93, 94, 95, 96, 97, 98, 99, 100, 101, 102] rfl (by decide +kernel)
set_option maxRecDepth 20000 in
theorem gX10_plan_X10_lookAhead : GoodIn wsX10_plan (wsV RX10 131 RX10 yX10_lookAhead wsX10_lookAhead) := goodIn_app (goodIn_of _ (by decide +kernel)) ggX10_plan_X10_lookAhead
set_option maxRecDepth 20000 in
theorem ggX10_plan_X10_isGone : GoodIn wsX10_plan wsX10_isGone := goodIn_r _ [23, 14, 17, 24, 25, 26, 5, 27, 28, 29, 30, 31, 32, 33, 34, 35, 36, 37, 38, 39, 15, 40, 41, 42, 43, 44, 45, 46, 47, 48, 49, 50, 51, 52, 53, 54, 55, 56, 57, 58, 59, 64, 65, 66, 67, 68, 69, 70, 71, 72, 73, 74, 75, 76, 77, 78, 79, 80, 81, 82, 83, 84, 85, 86, 87, 88, 89, 90, 91, 92, 93, 94, 95, 96, 97, 98, 99, 100, 101, 102] rfl (by decide +kernel)
set_option maxRecDepth 20000 in
theorem gX10_plan_X10_isGone : GoodIn wsX10_plan (wsV RX10 248 RX10 yX10_isGone wsX10_isGone) := goodIn_app (goodIn_of _ (by decide +kernel)) ggX10_plan_X10_isGone
set_option maxRecDepth 20000 in
theorem ggX10_plan_X10_allAt : GoodIn wsX10_plan wsX10_allAt := goodIn_r _ [63, 15, 14, 64, 65, 66, 67, 68, 69, 70, 71, 72, 73, 74, 75, 76, 77, 78, 79, 80, 81, 82, 83, 84, 85, 86, 87, 88, 89, 90, 91, 92, 93, 94, 95, 96, 97, 98, 99, 100, 101, 102] rfl (by decide +kernel)
set_option maxRecDepth 20000 in
theorem gX10_plan_X10_allAt : GoodIn wsX10_plan (wsV RX10 251 RX10 yX10_allAt wsX10_allAt) := goodIn_app (goodIn_of _ (by decide +kernel)) ggX10_plan_X10_allAt
set_option maxRecDepth 20000 in
theorem dqX10_plan_p140 : dz_rn 0 (cX10_plan.data.toList.drop 0) [(0, 1), (0, 2), (3, 2), (4, 7), (0, 3), (0, 13), (0, 1), (0, 9), (0, 26), (3, 2), (4, 8), (2, 0), (0, 12), (0, 4)] = some [(0, .iload_n 1, 1), (1, .iload_n 2, 1), (2, .invokestatic 245, 3), (5, .ifCond .eq 14, 3), (8, .iload_n 3, 1), (9, .iconst (-1), 1), (10, .iload_n 1, 1), (11, .iconst 1, 1), (12, .isub, 1), (13, .invokestatic 93, 3), (16, .ifCond .ne 6, 3), (19, .bipush (-3), 2), (21, .ireturn, 1), (22, .aload_n 0, 1)] := by decide +kernel
theorem dX10_plan_0 : decode cX10_plan 0 = .ok (.iload_n 1, 1) := dz_at dqX10_plan_p140 0 rfl
theorem dX10_plan_1 : decode cX10_plan 1 = .ok (.iload_n 2, 1) := dz_at dqX10_plan_p140 1 rfl
theorem dX10_plan_2 : decode cX10_plan 2 = .ok (.invokestatic 245, 3) := dz_at dqX10_plan_p140 2 rfl
theorem dX10_plan_5 : decode cX10_plan 5 = .ok (.ifCond .eq 14, 3) := dz_at dqX10_plan_p140 3 rfl
theorem dX10_plan_8 : decode cX10_plan 8 = .ok (.iload_n 3, 1) := dz_at dqX10_plan_p140 4 rfl
theorem dX10_plan_9 : decode cX10_plan 9 = .ok (.iconst (-1), 1) := dz_at dqX10_plan_p140 5 rfl
theorem dX10_plan_10 : decode cX10_plan 10 = .ok (.iload_n 1, 1) := dz_at dqX10_plan_p140 6 rfl
theorem dX10_plan_11 : decode cX10_plan 11 = .ok (.iconst 1, 1) := dz_at dqX10_plan_p140 7 rfl
theorem dX10_plan_12 : decode cX10_plan 12 = .ok (.isub, 1) := dz_at dqX10_plan_p140 8 rfl
theorem dX10_plan_13 : decode cX10_plan 13 = .ok (.invokestatic 93, 3) := dz_at dqX10_plan_p140 9 rfl
theorem dX10_plan_16 : decode cX10_plan 16 = .ok (.ifCond .ne 6, 3) := dz_at dqX10_plan_p140 10 rfl
theorem dX10_plan_19 : decode cX10_plan 19 = .ok (.bipush (-3), 2) := dz_at dqX10_plan_p140 11 rfl
theorem dX10_plan_21 : decode cX10_plan 21 = .ok (.ireturn, 1) := dz_at dqX10_plan_p140 12 rfl
theorem dX10_plan_22 : decode cX10_plan 22 = .ok (.aload_n 0, 1) := dz_at dqX10_plan_p140 13 rfl
set_option maxRecDepth 20000 in
theorem dqX10_plan_p141 : dz_rn 23 (cX10_plan.data.toList.drop 23) [(3, 1), (0, 13), (1, 1), (0, 8), (1, 1), (0, 4), (3, 0), (0, 8), (0, 13), (0, 22), (1, 0), (4, 9), (0, 4), (3, 0)] = some [(23, .invokevirtual 131, 3), (26, .iconst (-1), 1), (27, .istore 4, 2), (29, .iconst 0, 1), (30, .istore 5, 2), (32, .aload_n 0, 1), (33, .getfield 56, 3), (36, .iconst 0, 1), (37, .iconst (-1), 1), (38, .iastore, 1), (39, .iload 5, 2), (41, .ifCond .lt 134, 3), (44, .aload_n 0, 1), (45, .getfield 56, 3)] := by decide +kernel
theorem dX10_plan_23 : decode cX10_plan 23 = .ok (.invokevirtual 131, 3) := dz_at dqX10_plan_p141 0 rfl
theorem dX10_plan_26 : decode cX10_plan 26 = .ok (.iconst (-1), 1) := dz_at dqX10_plan_p141 1 rfl
theorem dX10_plan_27 : decode cX10_plan 27 = .ok (.istore 4, 2) := dz_at dqX10_plan_p141 2 rfl
theorem dX10_plan_29 : decode cX10_plan 29 = .ok (.iconst 0, 1) := dz_at dqX10_plan_p141 3 rfl
theorem dX10_plan_30 : decode cX10_plan 30 = .ok (.istore 5, 2) := dz_at dqX10_plan_p141 4 rfl
theorem dX10_plan_32 : decode cX10_plan 32 = .ok (.aload_n 0, 1) := dz_at dqX10_plan_p141 5 rfl
theorem dX10_plan_33 : decode cX10_plan 33 = .ok (.getfield 56, 3) := dz_at dqX10_plan_p141 6 rfl
theorem dX10_plan_36 : decode cX10_plan 36 = .ok (.iconst 0, 1) := dz_at dqX10_plan_p141 7 rfl
theorem dX10_plan_37 : decode cX10_plan 37 = .ok (.iconst (-1), 1) := dz_at dqX10_plan_p141 8 rfl
theorem dX10_plan_38 : decode cX10_plan 38 = .ok (.iastore, 1) := dz_at dqX10_plan_p141 9 rfl
theorem dX10_plan_39 : decode cX10_plan 39 = .ok (.iload 5, 2) := dz_at dqX10_plan_p141 10 rfl
theorem dX10_plan_41 : decode cX10_plan 41 = .ok (.ifCond .lt 134, 3) := dz_at dqX10_plan_p141 11 rfl
theorem dX10_plan_44 : decode cX10_plan 44 = .ok (.aload_n 0, 1) := dz_at dqX10_plan_p141 12 rfl
theorem dX10_plan_45 : decode cX10_plan 45 = .ok (.getfield 56, 3) := dz_at dqX10_plan_p141 13 rfl
set_option maxRecDepth 20000 in
theorem dqX10_plan_p142 : dz_rn 48 (cX10_plan.data.toList.drop 48) [(1, 0), (0, 41), (0, 10), (0, 9), (0, 11), (0, 22), (0, 4), (3, 0), (1, 0), (0, 10), (2, 0), (4, 6), (5, 0), (4, 0)] = some [(48, .iload 5, 2), (50, .dup2, 1), (51, .iaload, 1), (52, .iconst 1, 1), (53, .iadd, 1), (54, .iastore, 1), (55, .aload_n 0, 1), (56, .getfield 56, 3), (59, .iload 5, 2), (61, .iaload, 1), (62, .bipush 8, 2), (64, .if_icmp .le 9, 3), (67, .iinc 5 (-1), 3), (70, .goto (-31), 3)] := by decide +kernel
theorem dX10_plan_48 : decode cX10_plan 48 = .ok (.iload 5, 2) := dz_at dqX10_plan_p142 0 rfl
theorem dX10_plan_50 : decode cX10_plan 50 = .ok (.dup2, 1) := dz_at dqX10_plan_p142 1 rfl
theorem dX10_plan_51 : decode cX10_plan 51 = .ok (.iaload, 1) := dz_at dqX10_plan_p142 2 rfl
theorem dX10_plan_52 : decode cX10_plan 52 = .ok (.iconst 1, 1) := dz_at dqX10_plan_p142 3 rfl
theorem dX10_plan_53 : decode cX10_plan 53 = .ok (.iadd, 1) := dz_at dqX10_plan_p142 4 rfl
theorem dX10_plan_54 : decode cX10_plan 54 = .ok (.iastore, 1) := dz_at dqX10_plan_p142 5 rfl
theorem dX10_plan_55 : decode cX10_plan 55 = .ok (.aload_n 0, 1) := dz_at dqX10_plan_p142 6 rfl
theorem dX10_plan_56 : decode cX10_plan 56 = .ok (.getfield 56, 3) := dz_at dqX10_plan_p142 7 rfl
theorem dX10_plan_59 : decode cX10_plan 59 = .ok (.iload 5, 2) := dz_at dqX10_plan_p142 8 rfl
theorem dX10_plan_61 : decode cX10_plan 61 = .ok (.iaload, 1) := dz_at dqX10_plan_p142 9 rfl
theorem dX10_plan_62 : decode cX10_plan 62 = .ok (.bipush 8, 2) := dz_at dqX10_plan_p142 10 rfl
theorem dX10_plan_64 : decode cX10_plan 64 = .ok (.if_icmp .le 9, 3) := dz_at dqX10_plan_p142 11 rfl
theorem dX10_plan_67 : decode cX10_plan 67 = .ok (.iinc 5 (-1), 3) := dz_at dqX10_plan_p142 12 rfl
theorem dX10_plan_70 : decode cX10_plan 70 = .ok (.goto (-31), 3) := dz_at dqX10_plan_p142 13 rfl
set_option maxRecDepth 20000 in
theorem dqX10_plan_p143 : dz_rn 73 (cX10_plan.data.toList.drop 73) [(0, 4), (1, 0), (0, 4), (3, 0), (1, 0), (0, 10), (0, 2), (3, 1), (4, 7), (5, 0), (0, 4), (3, 0), (1, 0), (0, 13)] = some [(73, .aload_n 0, 1), (74, .iload 5, 2), (76, .aload_n 0, 1), (77, .getfield 56, 3), (80, .iload 5, 2), (82, .iaload, 1), (83, .iload_n 2, 1), (84, .invokevirtual 248, 3), (87, .ifCond .eq (-48), 3), (90, .iinc 5 1, 3), (93, .aload_n 0, 1), (94, .getfield 56, 3), (97, .iload 5, 2), (99, .iconst (-1), 1)] := by decide +kernel
theorem dX10_plan_73 : decode cX10_plan 73 = .ok (.aload_n 0, 1) := dz_at dqX10_plan_p143 0 rfl
theorem dX10_plan_74 : decode cX10_plan 74 = .ok (.iload 5, 2) := dz_at dqX10_plan_p143 1 rfl
theorem dX10_plan_76 : decode cX10_plan 76 = .ok (.aload_n 0, 1) := dz_at dqX10_plan_p143 2 rfl
theorem dX10_plan_77 : decode cX10_plan 77 = .ok (.getfield 56, 3) := dz_at dqX10_plan_p143 3 rfl
theorem dX10_plan_80 : decode cX10_plan 80 = .ok (.iload 5, 2) := dz_at dqX10_plan_p143 4 rfl
theorem dX10_plan_82 : decode cX10_plan 82 = .ok (.iaload, 1) := dz_at dqX10_plan_p143 5 rfl
theorem dX10_plan_83 : decode cX10_plan 83 = .ok (.iload_n 2, 1) := dz_at dqX10_plan_p143 6 rfl
theorem dX10_plan_84 : decode cX10_plan 84 = .ok (.invokevirtual 248, 3) := dz_at dqX10_plan_p143 7 rfl
theorem dX10_plan_87 : decode cX10_plan 87 = .ok (.ifCond .eq (-48), 3) := dz_at dqX10_plan_p143 8 rfl
theorem dX10_plan_90 : decode cX10_plan 90 = .ok (.iinc 5 1, 3) := dz_at dqX10_plan_p143 9 rfl
theorem dX10_plan_93 : decode cX10_plan 93 = .ok (.aload_n 0, 1) := dz_at dqX10_plan_p143 10 rfl
theorem dX10_plan_94 : decode cX10_plan 94 = .ok (.getfield 56, 3) := dz_at dqX10_plan_p143 11 rfl
theorem dX10_plan_97 : decode cX10_plan 97 = .ok (.iload 5, 2) := dz_at dqX10_plan_p143 12 rfl
theorem dX10_plan_99 : decode cX10_plan 99 = .ok (.iconst (-1), 1) := dz_at dqX10_plan_p143 13 rfl
set_option maxRecDepth 20000 in
theorem dqX10_plan_p144 : dz_rn 100 (cX10_plan.data.toList.drop 100) [(0, 22), (1, 0), (0, 1), (4, 2), (0, 4), (2, 0), (0, 1), (0, 23), (3, 1), (1, 1), (0, 8), (1, 1), (1, 0), (0, 1)] = some [(100, .iastore, 1), (101, .iload 5, 2), (103, .iload_n 1, 1), (104, .if_icmp .ne (-65), 3), (107, .aload_n 0, 1), (108, .bipush 48, 2), (110, .iload_n 1, 1), (111, .imul, 1), (112, .invokevirtual 251, 3), (115, .istore 6, 2), (117, .iconst 0, 1), (118, .istore 7, 2), (120, .iload 7, 2), (122, .iload_n 1, 1)] := by decide +kernel
theorem dX10_plan_100 : decode cX10_plan 100 = .ok (.iastore, 1) := dz_at dqX10_plan_p144 0 rfl
theorem dX10_plan_101 : decode cX10_plan 101 = .ok (.iload 5, 2) := dz_at dqX10_plan_p144 1 rfl
theorem dX10_plan_103 : decode cX10_plan 103 = .ok (.iload_n 1, 1) := dz_at dqX10_plan_p144 2 rfl
theorem dX10_plan_104 : decode cX10_plan 104 = .ok (.if_icmp .ne (-65), 3) := dz_at dqX10_plan_p144 3 rfl
theorem dX10_plan_107 : decode cX10_plan 107 = .ok (.aload_n 0, 1) := dz_at dqX10_plan_p144 4 rfl
theorem dX10_plan_108 : decode cX10_plan 108 = .ok (.bipush 48, 2) := dz_at dqX10_plan_p144 5 rfl
theorem dX10_plan_110 : decode cX10_plan 110 = .ok (.iload_n 1, 1) := dz_at dqX10_plan_p144 6 rfl
theorem dX10_plan_111 : decode cX10_plan 111 = .ok (.imul, 1) := dz_at dqX10_plan_p144 7 rfl
theorem dX10_plan_112 : decode cX10_plan 112 = .ok (.invokevirtual 251, 3) := dz_at dqX10_plan_p144 8 rfl
theorem dX10_plan_115 : decode cX10_plan 115 = .ok (.istore 6, 2) := dz_at dqX10_plan_p144 9 rfl
theorem dX10_plan_117 : decode cX10_plan 117 = .ok (.iconst 0, 1) := dz_at dqX10_plan_p144 10 rfl
theorem dX10_plan_118 : decode cX10_plan 118 = .ok (.istore 7, 2) := dz_at dqX10_plan_p144 11 rfl
theorem dX10_plan_120 : decode cX10_plan 120 = .ok (.iload 7, 2) := dz_at dqX10_plan_p144 12 rfl
theorem dX10_plan_122 : decode cX10_plan 122 = .ok (.iload_n 1, 1) := dz_at dqX10_plan_p144 13 rfl
set_option maxRecDepth 20000 in
theorem dqX10_plan_p145 : dz_rn 123 (cX10_plan.data.toList.drop 123) [(4, 4), (1, 0), (1, 0), (4, 6), (0, 4), (3, 0), (1, 0), (0, 4), (3, 0), (1, 0), (0, 10), (0, 22), (5, 0), (4, 0)] = some [(123, .if_icmp .ge 30, 3), (126, .iload 6, 2), (128, .iload 4, 2), (130, .if_icmp .le 23, 3), (133, .aload_n 0, 1), (134, .getfield 59, 3), (137, .iload 7, 2), (139, .aload_n 0, 1), (140, .getfield 56, 3), (143, .iload 7, 2), (145, .iaload, 1), (146, .iastore, 1), (147, .iinc 7 1, 3), (150, .goto (-30), 3)] := by decide +kernel
theorem dX10_plan_123 : decode cX10_plan 123 = .ok (.if_icmp .ge 30, 3) := dz_at dqX10_plan_p145 0 rfl
theorem dX10_plan_126 : decode cX10_plan 126 = .ok (.iload 6, 2) := dz_at dqX10_plan_p145 1 rfl
theorem dX10_plan_128 : decode cX10_plan 128 = .ok (.iload 4, 2) := dz_at dqX10_plan_p145 2 rfl
theorem dX10_plan_130 : decode cX10_plan 130 = .ok (.if_icmp .le 23, 3) := dz_at dqX10_plan_p145 3 rfl
theorem dX10_plan_133 : decode cX10_plan 133 = .ok (.aload_n 0, 1) := dz_at dqX10_plan_p145 4 rfl
theorem dX10_plan_134 : decode cX10_plan 134 = .ok (.getfield 59, 3) := dz_at dqX10_plan_p145 5 rfl
theorem dX10_plan_137 : decode cX10_plan 137 = .ok (.iload 7, 2) := dz_at dqX10_plan_p145 6 rfl
theorem dX10_plan_139 : decode cX10_plan 139 = .ok (.aload_n 0, 1) := dz_at dqX10_plan_p145 7 rfl
theorem dX10_plan_140 : decode cX10_plan 140 = .ok (.getfield 56, 3) := dz_at dqX10_plan_p145 8 rfl
theorem dX10_plan_143 : decode cX10_plan 143 = .ok (.iload 7, 2) := dz_at dqX10_plan_p145 9 rfl
theorem dX10_plan_145 : decode cX10_plan 145 = .ok (.iaload, 1) := dz_at dqX10_plan_p145 10 rfl
theorem dX10_plan_146 : decode cX10_plan 146 = .ok (.iastore, 1) := dz_at dqX10_plan_p145 11 rfl
theorem dX10_plan_147 : decode cX10_plan 147 = .ok (.iinc 7 1, 3) := dz_at dqX10_plan_p145 12 rfl
theorem dX10_plan_150 : decode cX10_plan 150 = .ok (.goto (-30), 3) := dz_at dqX10_plan_p145 13 rfl
set_option maxRecDepth 20000 in
theorem dqX10_plan_p146 : dz_rn 153 (cX10_plan.data.toList.drop 153) [(1, 0), (1, 0), (4, 6), (1, 0), (4, 0), (1, 0), (1, 1), (5, 0), (4, 0), (0, 3), (0, 13), (4, 2), (1, 0), (4, 0)] = some [(153, .iload 6, 2), (155, .iload 4, 2), (157, .if_icmp .le 8, 3), (160, .iload 6, 2), (162, .goto 5, 3), (165, .iload 4, 2), (167, .istore 4, 2), (169, .iinc 5 (-1), 3), (172, .goto (-133), 3), (175, .iload_n 3, 1), (176, .iconst (-1), 1), (177, .if_icmp .ne 8, 3), (180, .iload 4, 2), (182, .goto 9, 3)] := by decide +kernel
theorem dX10_plan_153 : decode cX10_plan 153 = .ok (.iload 6, 2) := dz_at dqX10_plan_p146 0 rfl
theorem dX10_plan_155 : decode cX10_plan 155 = .ok (.iload 4, 2) := dz_at dqX10_plan_p146 1 rfl
theorem dX10_plan_157 : decode cX10_plan 157 = .ok (.if_icmp .le 8, 3) := dz_at dqX10_plan_p146 2 rfl
theorem dX10_plan_160 : decode cX10_plan 160 = .ok (.iload 6, 2) := dz_at dqX10_plan_p146 3 rfl
theorem dX10_plan_162 : decode cX10_plan 162 = .ok (.goto 5, 3) := dz_at dqX10_plan_p146 4 rfl
theorem dX10_plan_165 : decode cX10_plan 165 = .ok (.iload 4, 2) := dz_at dqX10_plan_p146 5 rfl
theorem dX10_plan_167 : decode cX10_plan 167 = .ok (.istore 4, 2) := dz_at dqX10_plan_p146 6 rfl
theorem dX10_plan_169 : decode cX10_plan 169 = .ok (.iinc 5 (-1), 3) := dz_at dqX10_plan_p146 7 rfl
theorem dX10_plan_172 : decode cX10_plan 172 = .ok (.goto (-133), 3) := dz_at dqX10_plan_p146 8 rfl
theorem dX10_plan_175 : decode cX10_plan 175 = .ok (.iload_n 3, 1) := dz_at dqX10_plan_p146 9 rfl
theorem dX10_plan_176 : decode cX10_plan 176 = .ok (.iconst (-1), 1) := dz_at dqX10_plan_p146 10 rfl
theorem dX10_plan_177 : decode cX10_plan 177 = .ok (.if_icmp .ne 8, 3) := dz_at dqX10_plan_p146 11 rfl
theorem dX10_plan_180 : decode cX10_plan 180 = .ok (.iload 4, 2) := dz_at dqX10_plan_p146 12 rfl
theorem dX10_plan_182 : decode cX10_plan 182 = .ok (.goto 9, 3) := dz_at dqX10_plan_p146 13 rfl
set_option maxRecDepth 20000 in
theorem dqX10_plan_p147 : dz_rn 185 (cX10_plan.data.toList.drop 185) [(0, 4), (3, 0), (0, 3), (0, 10), (0, 12)] = some [(185, .aload_n 0, 1), (186, .getfield 59, 3), (189, .iload_n 3, 1), (190, .iaload, 1), (191, .ireturn, 1)] := by decide +kernel
theorem dX10_plan_185 : decode cX10_plan 185 = .ok (.aload_n 0, 1) := dz_at dqX10_plan_p147 0 rfl
theorem dX10_plan_186 : decode cX10_plan 186 = .ok (.getfield 59, 3) := dz_at dqX10_plan_p147 1 rfl
theorem dX10_plan_189 : decode cX10_plan 189 = .ok (.iload_n 3, 1) := dz_at dqX10_plan_p147 2 rfl
theorem dX10_plan_190 : decode cX10_plan 190 = .ok (.iaload, 1) := dz_at dqX10_plan_p147 3 rfl
theorem dX10_plan_191 : decode cX10_plan 191 = .ok (.ireturn, 1) := dz_at dqX10_plan_p147 4 rfl
set_option maxRecDepth 20000 in
theorem ggX10_judge_X10_areMinutes : GoodIn wsX10_judge wsX10_areMinutes := goodIn_r _ [4, 5, 6, 3, 7] rfl (by decide +kernel)
set_option maxRecDepth 20000 in
theorem gX10_judge_X10_areMinutes : GoodIn wsX10_judge (va_wsS RX10 245 yX10_areMinutes wsX10_areMinutes) := goodIn_app (goodIn_of _ (by decide +kernel)) ggX10_judge_X10_areMinutes
set_option maxRecDepth 20000 in
theorem ggX10_judge_X10_lookAhead : GoodIn wsX10_judge wsX10_lookAhead := goodIn_r _ [11, 12, 13, 14, 15, 16, 17, 62, 63, 64, 65, 66, 67, 68, 69, 70, 71, 72, 73, 74, 75, 76, 77, 78, 79, 80, 81, 82, 83, 84, 85, 86, 87, 88, 89, 90, 91, 92, 93, 94, 95, 96, 97, 98, 99, 100] rfl (by decide +kernel)
set_option maxRecDepth 20000 in
theorem gX10_judge_X10_lookAhead : GoodIn wsX10_judge (wsV RX10 131 RX10 yX10_lookAhead wsX10_lookAhead) := goodIn_app (goodIn_of _ (by decide +kernel)) ggX10_judge_X10_lookAhead
set_option maxRecDepth 20000 in
theorem ggX10_judge_X10_isGone : GoodIn wsX10_judge wsX10_isGone := goodIn_r _ [21, 12, 15, 22, 23, 24, 3, 25, 26, 27, 28, 29, 30, 31, 32, 33, 34, 35, 36, 37, 13, 38, 39, 40, 41, 42, 43, 44, 45, 46, 47, 48, 49, 50, 51, 52, 53, 54, 55, 56, 57, 62, 63, 64, 65, 66, 67, 68, 69, 70, 71, 72, 73, 74, 75, 76, 77, 78, 79, 80, 81, 82, 83, 84, 85, 86, 87, 88, 89, 90, 91, 92, 93, 94, 95, 96, 97, 98, 99, 100] rfl (by decide +kernel)
set_option maxRecDepth 20000 in
theorem gX10_judge_X10_isGone : GoodIn wsX10_judge (wsV RX10 248 RX10 yX10_isGone wsX10_isGone) := goodIn_app (goodIn_of _ (by decide +kernel)) ggX10_judge_X10_isGone
set_option maxRecDepth 20000 in
theorem ggX10_judge_X10_allAt : GoodIn wsX10_judge wsX10_allAt := goodIn_r _ [61, 13, 12, 62, 63, 64, 65, 66, 67, 68, 69, 70, 71, 72, 73, 74, 75, 76, 77, 78, 79, 80, 81, 82, 83, 84, 85, 86, 87, 88, 89, 90, 91, 92, 93, 94, 95, 96, 97, 98, 99, 100] rfl (by decide +kernel)
set_option maxRecDepth 20000 in
theorem gX10_judge_X10_allAt : GoodIn wsX10_judge (wsV RX10 251 RX10 yX10_allAt wsX10_allAt) := goodIn_app (goodIn_of _ (by decide +kernel)) ggX10_judge_X10_allAt
set_option maxRecDepth 20000 in
theorem dqX10_judge_p140 : dz_rn 0 (cX10_judge.data.toList.drop 0) [(0, 2), (0, 3), (3, 2), (4, 8), (2, 0), (0, 12), (0, 8), (1, 1), (1, 0), (0, 2), (4, 4), (0, 1), (0, 16), (1, 0)] = some [(0, .iload_n 2, 1), (1, .iload_n 3, 1), (2, .invokestatic 245, 3), (5, .ifCond .ne 6, 3), (8, .bipush (-3), 2), (10, .ireturn, 1), (11, .iconst 0, 1), (12, .istore 4, 2), (14, .iload 4, 2), (16, .iload_n 2, 1), (17, .if_icmp .ge 26, 3), (20, .iload_n 1, 1), (21, .iconst 4, 1), (22, .iload 4, 2)] := by decide +kernel
theorem dX10_judge_0 : decode cX10_judge 0 = .ok (.iload_n 2, 1) := dz_at dqX10_judge_p140 0 rfl
theorem dX10_judge_1 : decode cX10_judge 1 = .ok (.iload_n 3, 1) := dz_at dqX10_judge_p140 1 rfl
theorem dX10_judge_2 : decode cX10_judge 2 = .ok (.invokestatic 245, 3) := dz_at dqX10_judge_p140 2 rfl
theorem dX10_judge_5 : decode cX10_judge 5 = .ok (.ifCond .ne 6, 3) := dz_at dqX10_judge_p140 3 rfl
theorem dX10_judge_8 : decode cX10_judge 8 = .ok (.bipush (-3), 2) := dz_at dqX10_judge_p140 4 rfl
theorem dX10_judge_10 : decode cX10_judge 10 = .ok (.ireturn, 1) := dz_at dqX10_judge_p140 5 rfl
theorem dX10_judge_11 : decode cX10_judge 11 = .ok (.iconst 0, 1) := dz_at dqX10_judge_p140 6 rfl
theorem dX10_judge_12 : decode cX10_judge 12 = .ok (.istore 4, 2) := dz_at dqX10_judge_p140 7 rfl
theorem dX10_judge_14 : decode cX10_judge 14 = .ok (.iload 4, 2) := dz_at dqX10_judge_p140 8 rfl
theorem dX10_judge_16 : decode cX10_judge 16 = .ok (.iload_n 2, 1) := dz_at dqX10_judge_p140 9 rfl
theorem dX10_judge_17 : decode cX10_judge 17 = .ok (.if_icmp .ge 26, 3) := dz_at dqX10_judge_p140 10 rfl
theorem dX10_judge_20 : decode cX10_judge 20 = .ok (.iload_n 1, 1) := dz_at dqX10_judge_p140 11 rfl
theorem dX10_judge_21 : decode cX10_judge 21 = .ok (.iconst 4, 1) := dz_at dqX10_judge_p140 12 rfl
theorem dX10_judge_22 : decode cX10_judge 22 = .ok (.iload 4, 2) := dz_at dqX10_judge_p140 13 rfl
set_option maxRecDepth 20000 in
theorem dqX10_judge_p141 : dz_rn 24 (cX10_judge.data.toList.drop 24) [(0, 23), (0, 32), (2, 0), (0, 29), (2, 0), (4, 6), (2, 0), (0, 12), (5, 0), (4, 0), (0, 4), (3, 1), (0, 8), (1, 1)] = some [(24, .imul, 1), (25, .ishr, 1), (26, .bipush 15, 2), (28, .iand, 1), (29, .bipush 8, 2), (31, .if_icmp .le 6, 3), (34, .bipush (-3), 2), (36, .ireturn, 1), (37, .iinc 4 1, 3), (40, .goto (-26), 3), (43, .aload_n 0, 1), (44, .invokevirtual 131, 3), (47, .iconst 0, 1), (48, .istore 4, 2)] := by decide +kernel
theorem dX10_judge_24 : decode cX10_judge 24 = .ok (.imul, 1) := dz_at dqX10_judge_p141 0 rfl
theorem dX10_judge_25 : decode cX10_judge 25 = .ok (.ishr, 1) := dz_at dqX10_judge_p141 1 rfl
theorem dX10_judge_26 : decode cX10_judge 26 = .ok (.bipush 15, 2) := dz_at dqX10_judge_p141 2 rfl
theorem dX10_judge_28 : decode cX10_judge 28 = .ok (.iand, 1) := dz_at dqX10_judge_p141 3 rfl
theorem dX10_judge_29 : decode cX10_judge 29 = .ok (.bipush 8, 2) := dz_at dqX10_judge_p141 4 rfl
theorem dX10_judge_31 : decode cX10_judge 31 = .ok (.if_icmp .le 6, 3) := dz_at dqX10_judge_p141 5 rfl
theorem dX10_judge_34 : decode cX10_judge 34 = .ok (.bipush (-3), 2) := dz_at dqX10_judge_p141 6 rfl
theorem dX10_judge_36 : decode cX10_judge 36 = .ok (.ireturn, 1) := dz_at dqX10_judge_p141 7 rfl
theorem dX10_judge_37 : decode cX10_judge 37 = .ok (.iinc 4 1, 3) := dz_at dqX10_judge_p141 8 rfl
theorem dX10_judge_40 : decode cX10_judge 40 = .ok (.goto (-26), 3) := dz_at dqX10_judge_p141 9 rfl
theorem dX10_judge_43 : decode cX10_judge 43 = .ok (.aload_n 0, 1) := dz_at dqX10_judge_p141 10 rfl
theorem dX10_judge_44 : decode cX10_judge 44 = .ok (.invokevirtual 131, 3) := dz_at dqX10_judge_p141 11 rfl
theorem dX10_judge_47 : decode cX10_judge 47 = .ok (.iconst 0, 1) := dz_at dqX10_judge_p141 12 rfl
theorem dX10_judge_48 : decode cX10_judge 48 = .ok (.istore 4, 2) := dz_at dqX10_judge_p141 13 rfl
set_option maxRecDepth 20000 in
theorem dqX10_judge_p142 : dz_rn 50 (cX10_judge.data.toList.drop 50) [(1, 0), (0, 2), (4, 4), (0, 4), (1, 0), (0, 1), (0, 16), (1, 0), (0, 23), (0, 32), (2, 0), (0, 29), (0, 3), (3, 1)] = some [(50, .iload 4, 2), (52, .iload_n 2, 1), (53, .if_icmp .ge 30, 3), (56, .aload_n 0, 1), (57, .iload 4, 2), (59, .iload_n 1, 1), (60, .iconst 4, 1), (61, .iload 4, 2), (63, .imul, 1), (64, .ishr, 1), (65, .bipush 15, 2), (67, .iand, 1), (68, .iload_n 3, 1), (69, .invokevirtual 248, 3)] := by decide +kernel
theorem dX10_judge_50 : decode cX10_judge 50 = .ok (.iload 4, 2) := dz_at dqX10_judge_p142 0 rfl
theorem dX10_judge_52 : decode cX10_judge 52 = .ok (.iload_n 2, 1) := dz_at dqX10_judge_p142 1 rfl
theorem dX10_judge_53 : decode cX10_judge 53 = .ok (.if_icmp .ge 30, 3) := dz_at dqX10_judge_p142 2 rfl
theorem dX10_judge_56 : decode cX10_judge 56 = .ok (.aload_n 0, 1) := dz_at dqX10_judge_p142 3 rfl
theorem dX10_judge_57 : decode cX10_judge 57 = .ok (.iload 4, 2) := dz_at dqX10_judge_p142 4 rfl
theorem dX10_judge_59 : decode cX10_judge 59 = .ok (.iload_n 1, 1) := dz_at dqX10_judge_p142 5 rfl
theorem dX10_judge_60 : decode cX10_judge 60 = .ok (.iconst 4, 1) := dz_at dqX10_judge_p142 6 rfl
theorem dX10_judge_61 : decode cX10_judge 61 = .ok (.iload 4, 2) := dz_at dqX10_judge_p142 7 rfl
theorem dX10_judge_63 : decode cX10_judge 63 = .ok (.imul, 1) := dz_at dqX10_judge_p142 8 rfl
theorem dX10_judge_64 : decode cX10_judge 64 = .ok (.ishr, 1) := dz_at dqX10_judge_p142 9 rfl
theorem dX10_judge_65 : decode cX10_judge 65 = .ok (.bipush 15, 2) := dz_at dqX10_judge_p142 10 rfl
theorem dX10_judge_67 : decode cX10_judge 67 = .ok (.iand, 1) := dz_at dqX10_judge_p142 11 rfl
theorem dX10_judge_68 : decode cX10_judge 68 = .ok (.iload_n 3, 1) := dz_at dqX10_judge_p142 12 rfl
theorem dX10_judge_69 : decode cX10_judge 69 = .ok (.invokevirtual 248, 3) := dz_at dqX10_judge_p142 13 rfl
set_option maxRecDepth 20000 in
theorem dqX10_judge_p143 : dz_rn 72 (cX10_judge.data.toList.drop 72) [(4, 8), (0, 13), (0, 12), (5, 0), (4, 0), (0, 4), (2, 0), (0, 2), (0, 23), (3, 1), (0, 12)] = some [(72, .ifCond .ne 5, 3), (75, .iconst (-1), 1), (76, .ireturn, 1), (77, .iinc 4 1, 3), (80, .goto (-30), 3), (83, .aload_n 0, 1), (84, .bipush 48, 2), (86, .iload_n 2, 1), (87, .imul, 1), (88, .invokevirtual 251, 3), (91, .ireturn, 1)] := by decide +kernel
theorem dX10_judge_72 : decode cX10_judge 72 = .ok (.ifCond .ne 5, 3) := dz_at dqX10_judge_p143 0 rfl
theorem dX10_judge_75 : decode cX10_judge 75 = .ok (.iconst (-1), 1) := dz_at dqX10_judge_p143 1 rfl
theorem dX10_judge_76 : decode cX10_judge 76 = .ok (.ireturn, 1) := dz_at dqX10_judge_p143 2 rfl
theorem dX10_judge_77 : decode cX10_judge 77 = .ok (.iinc 4 1, 3) := dz_at dqX10_judge_p143 3 rfl
theorem dX10_judge_80 : decode cX10_judge 80 = .ok (.goto (-30), 3) := dz_at dqX10_judge_p143 4 rfl
theorem dX10_judge_83 : decode cX10_judge 83 = .ok (.aload_n 0, 1) := dz_at dqX10_judge_p143 5 rfl
theorem dX10_judge_84 : decode cX10_judge 84 = .ok (.bipush 48, 2) := dz_at dqX10_judge_p143 6 rfl
theorem dX10_judge_86 : decode cX10_judge 86 = .ok (.iload_n 2, 1) := dz_at dqX10_judge_p143 7 rfl
theorem dX10_judge_87 : decode cX10_judge 87 = .ok (.imul, 1) := dz_at dqX10_judge_p143 8 rfl
theorem dX10_judge_88 : decode cX10_judge 88 = .ok (.invokevirtual 251, 3) := dz_at dqX10_judge_p143 9 rfl
theorem dX10_judge_91 : decode cX10_judge 91 = .ok (.ireturn, 1) := dz_at dqX10_judge_p143 10 rfl
