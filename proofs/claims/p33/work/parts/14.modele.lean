section
set_option maxRecDepth 20000 in
theorem ggX10_costOf_X10_doorsTo : GoodIn wsX10_costOf wsX10_doorsTo := goodIn_r _ [5, 6, 7, 8, 9, 15, 16, 17, 18, 19, 20, 21, 22, 23, 24, 25, 26, 27, 28, 29, 30, 31, 32, 33, 34, 35, 36, 37, 38, 39, 40, 41, 42, 43, 44, 45, 46, 47, 48, 49, 50, 51, 52, 53] rfl (by decide +kernel)
set_option maxRecDepth 20000 in
theorem gX10_costOf_X10_doorsTo : GoodIn wsX10_costOf (wsV RX10 108 RX10 yX10_doorsTo wsX10_doorsTo) := goodIn_app (goodIn_of _ (by decide +kernel)) ggX10_costOf_X10_doorsTo
set_option maxRecDepth 20000 in
theorem ggX10_costOf_X10_standIn : GoodIn wsX10_costOf wsX10_standIn := goodIn_r _ [13, 14, 15, 16, 17, 18, 19, 20, 21, 22, 23, 24, 25, 26, 27, 28, 29, 30, 31, 32, 33, 34, 35, 36, 37, 38, 39, 40, 41, 42, 43, 44, 45, 46, 47, 48, 49, 50, 51, 52, 53] rfl (by decide +kernel)
set_option maxRecDepth 20000 in
theorem gX10_costOf_X10_standIn : GoodIn wsX10_costOf (wsV RX10 213 RX10 yX10_standIn wsX10_standIn) := goodIn_app (goodIn_of _ (by decide +kernel)) ggX10_costOf_X10_standIn
set_option maxRecDepth 20000 in
theorem dqX10_costOf_p140 : dz_rn 0 (cX10_costOf.data.toList.drop 0) [(0, 4), (0, 8), (0, 1), (3, 1), (0, 20), (0, 2), (0, 13), (4, 2), (0, 13), (4, 0), (0, 14), (0, 2), (0, 23), (0, 4)] = some [(0, .aload_n 0, 1), (1, .iconst 0, 1), (2, .iload_n 1, 1), (3, .invokevirtual 108, 3), (6, .istore_n 2, 1), (7, .iload_n 2, 1), (8, .iconst (-1), 1), (9, .if_icmp .ne 7, 3), (12, .iconst (-1), 1), (13, .goto 12, 3), (16, .iconst 2, 1), (17, .iload_n 2, 1), (18, .imul, 1), (19, .aload_n 0, 1)] := by decide +kernel
theorem dX10_costOf_0 : decode cX10_costOf 0 = .ok (.aload_n 0, 1) := dz_at dqX10_costOf_p140 0 rfl
theorem dX10_costOf_1 : decode cX10_costOf 1 = .ok (.iconst 0, 1) := dz_at dqX10_costOf_p140 1 rfl
theorem dX10_costOf_2 : decode cX10_costOf 2 = .ok (.iload_n 1, 1) := dz_at dqX10_costOf_p140 2 rfl
theorem dX10_costOf_3 : decode cX10_costOf 3 = .ok (.invokevirtual 108, 3) := dz_at dqX10_costOf_p140 3 rfl
theorem dX10_costOf_6 : decode cX10_costOf 6 = .ok (.istore_n 2, 1) := dz_at dqX10_costOf_p140 4 rfl
theorem dX10_costOf_7 : decode cX10_costOf 7 = .ok (.iload_n 2, 1) := dz_at dqX10_costOf_p140 5 rfl
theorem dX10_costOf_8 : decode cX10_costOf 8 = .ok (.iconst (-1), 1) := dz_at dqX10_costOf_p140 6 rfl
theorem dX10_costOf_9 : decode cX10_costOf 9 = .ok (.if_icmp .ne 7, 3) := dz_at dqX10_costOf_p140 7 rfl
theorem dX10_costOf_12 : decode cX10_costOf 12 = .ok (.iconst (-1), 1) := dz_at dqX10_costOf_p140 8 rfl
theorem dX10_costOf_13 : decode cX10_costOf 13 = .ok (.goto 12, 3) := dz_at dqX10_costOf_p140 9 rfl
theorem dX10_costOf_16 : decode cX10_costOf 16 = .ok (.iconst 2, 1) := dz_at dqX10_costOf_p140 10 rfl
theorem dX10_costOf_17 : decode cX10_costOf 17 = .ok (.iload_n 2, 1) := dz_at dqX10_costOf_p140 11 rfl
theorem dX10_costOf_18 : decode cX10_costOf 18 = .ok (.imul, 1) := dz_at dqX10_costOf_p140 12 rfl
theorem dX10_costOf_19 : decode cX10_costOf 19 = .ok (.aload_n 0, 1) := dz_at dqX10_costOf_p140 13 rfl
set_option maxRecDepth 20000 in
theorem dqX10_costOf_p141 : dz_rn 20 (cX10_costOf.data.toList.drop 20) [(0, 1), (3, 1), (0, 11), (0, 12)] = some [(20, .iload_n 1, 1), (21, .invokevirtual 213, 3), (24, .iadd, 1), (25, .ireturn, 1)] := by decide +kernel
theorem dX10_costOf_20 : decode cX10_costOf 20 = .ok (.iload_n 1, 1) := dz_at dqX10_costOf_p141 0 rfl
theorem dX10_costOf_21 : decode cX10_costOf 21 = .ok (.invokevirtual 213, 3) := dz_at dqX10_costOf_p141 1 rfl
theorem dX10_costOf_24 : decode cX10_costOf 24 = .ok (.iadd, 1) := dz_at dqX10_costOf_p141 2 rfl
theorem dX10_costOf_25 : decode cX10_costOf 25 = .ok (.ireturn, 1) := dz_at dqX10_costOf_p141 3 rfl
set_option maxRecDepth 20000 in
theorem ggX10_cost_X10_isRoom : GoodIn wsX10_cost wsX10_isRoom := goodIn_r _ [4, 5, 6, 3, 7] rfl (by decide +kernel)
set_option maxRecDepth 20000 in
theorem gX10_cost_X10_isRoom : GoodIn wsX10_cost (va_wsS RX10 100 yX10_isRoom wsX10_isRoom) := goodIn_app (goodIn_of _ (by decide +kernel)) ggX10_cost_X10_isRoom
set_option maxRecDepth 20000 in
theorem ggX10_cost_X10_costOf : GoodIn wsX10_cost wsX10_costOf := goodIn_r _ [11, 12, 13, 14, 3, 15, 16, 17, 18, 19, 20, 21, 22, 23, 24, 25, 26, 27, 28, 29, 30, 31, 32, 33, 34, 35, 36, 37, 38, 39, 40, 41, 42, 43, 44, 45, 46, 47, 48, 49, 50, 51, 52, 53, 54, 55, 56, 57, 58, 59, 60, 61, 62, 63] rfl (by decide +kernel)
set_option maxRecDepth 20000 in
theorem gX10_cost_X10_costOf : GoodIn wsX10_cost (wsV RX10 242 RX10 yX10_costOf wsX10_costOf) := goodIn_app (goodIn_of _ (by decide +kernel)) ggX10_cost_X10_costOf
set_option maxRecDepth 20000 in
theorem dqX10_cost_p140 : dz_rn 0 (cX10_cost.data.toList.drop 0) [(0, 1), (3, 2), (4, 7), (0, 4), (0, 1), (3, 1), (4, 0), (2, 0), (0, 12)] = some [(0, .iload_n 1, 1), (1, .invokestatic 100, 3), (4, .ifCond .eq 11, 3), (7, .aload_n 0, 1), (8, .iload_n 1, 1), (9, .invokevirtual 242, 3), (12, .goto 5, 3), (15, .bipush (-2), 2), (17, .ireturn, 1)] := by decide +kernel
theorem dX10_cost_0 : decode cX10_cost 0 = .ok (.iload_n 1, 1) := dz_at dqX10_cost_p140 0 rfl
theorem dX10_cost_1 : decode cX10_cost 1 = .ok (.invokestatic 100, 3) := dz_at dqX10_cost_p140 1 rfl
theorem dX10_cost_4 : decode cX10_cost 4 = .ok (.ifCond .eq 11, 3) := dz_at dqX10_cost_p140 2 rfl
theorem dX10_cost_7 : decode cX10_cost 7 = .ok (.aload_n 0, 1) := dz_at dqX10_cost_p140 3 rfl
theorem dX10_cost_8 : decode cX10_cost 8 = .ok (.iload_n 1, 1) := dz_at dqX10_cost_p140 4 rfl
theorem dX10_cost_9 : decode cX10_cost 9 = .ok (.invokevirtual 242, 3) := dz_at dqX10_cost_p140 5 rfl
theorem dX10_cost_12 : decode cX10_cost 12 = .ok (.goto 5, 3) := dz_at dqX10_cost_p140 6 rfl
theorem dX10_cost_15 : decode cX10_cost 15 = .ok (.bipush (-2), 2) := dz_at dqX10_cost_p140 7 rfl
theorem dX10_cost_17 : decode cX10_cost 17 = .ok (.ireturn, 1) := dz_at dqX10_cost_p140 8 rfl
set_option maxRecDepth 20000 in
theorem ggX10_areMinutes_X10_in : GoodIn wsX10_areMinutes wsX10_in := goodIn_r _ [4] rfl (by decide +kernel)
set_option maxRecDepth 20000 in
theorem gX10_areMinutes_X10_in : GoodIn wsX10_areMinutes (va_wsS RX10 93 yX10_in wsX10_in) := goodIn_app (goodIn_of _ (by decide +kernel)) ggX10_areMinutes_X10_in
set_option maxRecDepth 20000 in
theorem dqX10_areMinutes_p140 : dz_rn 0 (cX10_areMinutes.data.toList.drop 0) [(0, 0), (0, 9), (0, 16), (3, 2), (0, 20), (0, 8), (0, 21), (0, 3), (0, 0), (4, 4), (0, 2), (4, 7), (0, 1), (2, 0)] = some [(0, .iload_n 0, 1), (1, .iconst 1, 1), (2, .iconst 4, 1), (3, .invokestatic 93, 3), (6, .istore_n 2, 1), (7, .iconst 0, 1), (8, .istore_n 3, 1), (9, .iload_n 3, 1), (10, .iload_n 0, 1), (11, .if_icmp .ge 33, 3), (14, .iload_n 2, 1), (15, .ifCond .eq 29, 3), (18, .iload_n 1, 1), (19, .bipush 7, 2)] := by decide +kernel
theorem dX10_areMinutes_0 : decode cX10_areMinutes 0 = .ok (.iload_n 0, 1) := dz_at dqX10_areMinutes_p140 0 rfl
theorem dX10_areMinutes_1 : decode cX10_areMinutes 1 = .ok (.iconst 1, 1) := dz_at dqX10_areMinutes_p140 1 rfl
theorem dX10_areMinutes_2 : decode cX10_areMinutes 2 = .ok (.iconst 4, 1) := dz_at dqX10_areMinutes_p140 2 rfl
theorem dX10_areMinutes_3 : decode cX10_areMinutes 3 = .ok (.invokestatic 93, 3) := dz_at dqX10_areMinutes_p140 3 rfl
theorem dX10_areMinutes_6 : decode cX10_areMinutes 6 = .ok (.istore_n 2, 1) := dz_at dqX10_areMinutes_p140 4 rfl
theorem dX10_areMinutes_7 : decode cX10_areMinutes 7 = .ok (.iconst 0, 1) := dz_at dqX10_areMinutes_p140 5 rfl
theorem dX10_areMinutes_8 : decode cX10_areMinutes 8 = .ok (.istore_n 3, 1) := dz_at dqX10_areMinutes_p140 6 rfl
theorem dX10_areMinutes_9 : decode cX10_areMinutes 9 = .ok (.iload_n 3, 1) := dz_at dqX10_areMinutes_p140 7 rfl
theorem dX10_areMinutes_10 : decode cX10_areMinutes 10 = .ok (.iload_n 0, 1) := dz_at dqX10_areMinutes_p140 8 rfl
theorem dX10_areMinutes_11 : decode cX10_areMinutes 11 = .ok (.if_icmp .ge 33, 3) := dz_at dqX10_areMinutes_p140 9 rfl
theorem dX10_areMinutes_14 : decode cX10_areMinutes 14 = .ok (.iload_n 2, 1) := dz_at dqX10_areMinutes_p140 10 rfl
theorem dX10_areMinutes_15 : decode cX10_areMinutes 15 = .ok (.ifCond .eq 29, 3) := dz_at dqX10_areMinutes_p140 11 rfl
theorem dX10_areMinutes_18 : decode cX10_areMinutes 18 = .ok (.iload_n 1, 1) := dz_at dqX10_areMinutes_p140 12 rfl
theorem dX10_areMinutes_19 : decode cX10_areMinutes 19 = .ok (.bipush 7, 2) := dz_at dqX10_areMinutes_p140 13 rfl
set_option maxRecDepth 20000 in
theorem dqX10_areMinutes_p141 : dz_rn 21 (cX10_areMinutes.data.toList.drop 21) [(0, 3), (0, 23), (0, 32), (2, 0), (0, 29), (2, 0), (4, 4), (0, 9), (4, 0), (0, 8), (0, 20), (5, 0), (4, 0), (0, 2)] = some [(21, .iload_n 3, 1), (22, .imul, 1), (23, .ishr, 1), (24, .bipush 127, 2), (26, .iand, 1), (27, .bipush 100, 2), (29, .if_icmp .ge 7, 3), (32, .iconst 1, 1), (33, .goto 4, 3), (36, .iconst 0, 1), (37, .istore_n 2, 1), (38, .iinc 3 1, 3), (41, .goto (-32), 3), (44, .iload_n 2, 1)] := by decide +kernel
theorem dX10_areMinutes_21 : decode cX10_areMinutes 21 = .ok (.iload_n 3, 1) := dz_at dqX10_areMinutes_p141 0 rfl
theorem dX10_areMinutes_22 : decode cX10_areMinutes 22 = .ok (.imul, 1) := dz_at dqX10_areMinutes_p141 1 rfl
theorem dX10_areMinutes_23 : decode cX10_areMinutes 23 = .ok (.ishr, 1) := dz_at dqX10_areMinutes_p141 2 rfl
theorem dX10_areMinutes_24 : decode cX10_areMinutes 24 = .ok (.bipush 127, 2) := dz_at dqX10_areMinutes_p141 3 rfl
theorem dX10_areMinutes_26 : decode cX10_areMinutes 26 = .ok (.iand, 1) := dz_at dqX10_areMinutes_p141 4 rfl
theorem dX10_areMinutes_27 : decode cX10_areMinutes 27 = .ok (.bipush 100, 2) := dz_at dqX10_areMinutes_p141 5 rfl
theorem dX10_areMinutes_29 : decode cX10_areMinutes 29 = .ok (.if_icmp .ge 7, 3) := dz_at dqX10_areMinutes_p141 6 rfl
theorem dX10_areMinutes_32 : decode cX10_areMinutes 32 = .ok (.iconst 1, 1) := dz_at dqX10_areMinutes_p141 7 rfl
theorem dX10_areMinutes_33 : decode cX10_areMinutes 33 = .ok (.goto 4, 3) := dz_at dqX10_areMinutes_p141 8 rfl
theorem dX10_areMinutes_36 : decode cX10_areMinutes 36 = .ok (.iconst 0, 1) := dz_at dqX10_areMinutes_p141 9 rfl
theorem dX10_areMinutes_37 : decode cX10_areMinutes 37 = .ok (.istore_n 2, 1) := dz_at dqX10_areMinutes_p141 10 rfl
theorem dX10_areMinutes_38 : decode cX10_areMinutes 38 = .ok (.iinc 3 1, 3) := dz_at dqX10_areMinutes_p141 11 rfl
theorem dX10_areMinutes_41 : decode cX10_areMinutes 41 = .ok (.goto (-32), 3) := dz_at dqX10_areMinutes_p141 12 rfl
theorem dX10_areMinutes_44 : decode cX10_areMinutes 44 = .ok (.iload_n 2, 1) := dz_at dqX10_areMinutes_p141 13 rfl
theorem dX10_areMinutes_45 : decode cX10_areMinutes 45 = .ok (.ireturn, 1) := by decide +kernel
set_option maxRecDepth 20000 in
theorem ggX10_isGone_X10_costOf : GoodIn wsX10_isGone wsX10_costOf := goodIn_r _ [7, 8, 9, 10, 6, 11, 12, 13, 14, 15, 16, 17, 18, 19, 20, 41, 42, 43, 44, 45, 46, 47, 48, 49, 50, 51, 52, 53, 54, 55, 56, 57, 58, 59, 60, 61, 62, 63, 64, 65, 66, 67, 68, 69, 70, 71, 72, 73, 74, 75, 76, 77, 78, 79] rfl (by decide +kernel)
set_option maxRecDepth 20000 in
theorem gX10_isGone_X10_costOf : GoodIn wsX10_isGone (wsV RX10 242 RX10 yX10_costOf wsX10_costOf) := goodIn_app (goodIn_of _ (by decide +kernel)) ggX10_isGone_X10_costOf
set_option maxRecDepth 20000 in
theorem ggX10_isGone_X10_goWalk : GoodIn wsX10_isGone wsX10_goWalk := goodIn_r _ [24, 20, 1, 25, 41, 42, 43, 44, 45, 46, 47, 48, 49, 50, 51, 52, 53, 54, 55, 56, 57, 58, 59, 60, 61, 62, 63, 64, 65, 66, 67, 68, 69, 70, 71, 72, 73, 74, 75, 76, 77, 78, 79] rfl (by decide +kernel)
set_option maxRecDepth 20000 in
theorem gX10_isGone_X10_goWalk : GoodIn wsX10_isGone (wsV RX10 138 RX10 yX10_goWalk wsX10_goWalk) := goodIn_app (goodIn_of _ (by decide +kernel)) ggX10_isGone_X10_goWalk
set_option maxRecDepth 20000 in
theorem ggX10_isGone_X10_goDay : GoodIn wsX10_isGone wsX10_goDay := goodIn_r _ [29, 1, 2, 20, 30, 31, 32, 33, 6, 34, 35, 36, 37, 38, 39, 40, 41, 42, 43, 44, 45, 46, 47, 48, 49, 50, 51, 52, 53, 54, 55, 56, 57, 58, 59, 60, 61, 62, 63, 64, 65, 66, 67, 68, 69, 70, 71, 72, 73, 74, 75, 76, 77, 78, 79] rfl (by decide +kernel)
set_option maxRecDepth 20000 in
theorem gX10_isGone_X10_goDay : GoodIn wsX10_isGone (wsV RX10 134 RX10 yX10_goDay wsX10_goDay) := goodIn_app (goodIn_of _ (by decide +kernel)) ggX10_isGone_X10_goDay
set_option maxRecDepth 20000 in
theorem dqX10_isGone_p140 : dz_rn 0 (cX10_isGone.data.toList.drop 0) [(0, 8), (1, 1), (1, 0), (2, 0), (4, 4), (0, 4), (3, 0), (2, 0), (0, 1), (0, 23), (2, 0), (0, 11), (1, 0), (0, 11)] = some [(0, .iconst 0, 1), (1, .istore 4, 2), (3, .iload 4, 2), (5, .bipush 48, 2), (7, .if_icmp .ge 63, 3), (10, .aload_n 0, 1), (11, .getfield 50, 3), (14, .bipush 48, 2), (16, .iload_n 1, 1), (17, .imul, 1), (18, .bipush 48, 2), (20, .iadd, 1), (21, .iload 4, 2), (23, .iadd, 1)] := by decide +kernel
theorem dX10_isGone_0 : decode cX10_isGone 0 = .ok (.iconst 0, 1) := dz_at dqX10_isGone_p140 0 rfl
theorem dX10_isGone_1 : decode cX10_isGone 1 = .ok (.istore 4, 2) := dz_at dqX10_isGone_p140 1 rfl
theorem dX10_isGone_3 : decode cX10_isGone 3 = .ok (.iload 4, 2) := dz_at dqX10_isGone_p140 2 rfl
theorem dX10_isGone_5 : decode cX10_isGone 5 = .ok (.bipush 48, 2) := dz_at dqX10_isGone_p140 3 rfl
theorem dX10_isGone_7 : decode cX10_isGone 7 = .ok (.if_icmp .ge 63, 3) := dz_at dqX10_isGone_p140 4 rfl
theorem dX10_isGone_10 : decode cX10_isGone 10 = .ok (.aload_n 0, 1) := dz_at dqX10_isGone_p140 5 rfl
theorem dX10_isGone_11 : decode cX10_isGone 11 = .ok (.getfield 50, 3) := dz_at dqX10_isGone_p140 6 rfl
theorem dX10_isGone_14 : decode cX10_isGone 14 = .ok (.bipush 48, 2) := dz_at dqX10_isGone_p140 7 rfl
theorem dX10_isGone_16 : decode cX10_isGone 16 = .ok (.iload_n 1, 1) := dz_at dqX10_isGone_p140 8 rfl
theorem dX10_isGone_17 : decode cX10_isGone 17 = .ok (.imul, 1) := dz_at dqX10_isGone_p140 9 rfl
theorem dX10_isGone_18 : decode cX10_isGone 18 = .ok (.bipush 48, 2) := dz_at dqX10_isGone_p140 10 rfl
theorem dX10_isGone_20 : decode cX10_isGone 20 = .ok (.iadd, 1) := dz_at dqX10_isGone_p140 11 rfl
theorem dX10_isGone_21 : decode cX10_isGone 21 = .ok (.iload 4, 2) := dz_at dqX10_isGone_p140 12 rfl
theorem dX10_isGone_23 : decode cX10_isGone 23 = .ok (.iadd, 1) := dz_at dqX10_isGone_p140 13 rfl
set_option maxRecDepth 20000 in
theorem dqX10_isGone_p141 : dz_rn 24 (cX10_isGone.data.toList.drop 24) [(0, 4), (3, 0), (2, 0), (0, 1), (0, 23), (1, 0), (0, 11), (0, 10), (0, 22), (0, 4), (3, 0), (2, 0), (0, 1), (0, 23)] = some [(24, .aload_n 0, 1), (25, .getfield 50, 3), (28, .bipush 48, 2), (30, .iload_n 1, 1), (31, .imul, 1), (32, .iload 4, 2), (34, .iadd, 1), (35, .iaload, 1), (36, .iastore, 1), (37, .aload_n 0, 1), (38, .getfield 53, 3), (41, .bipush 48, 2), (43, .iload_n 1, 1), (44, .imul, 1)] := by decide +kernel
theorem dX10_isGone_24 : decode cX10_isGone 24 = .ok (.aload_n 0, 1) := dz_at dqX10_isGone_p141 0 rfl
theorem dX10_isGone_25 : decode cX10_isGone 25 = .ok (.getfield 50, 3) := dz_at dqX10_isGone_p141 1 rfl
theorem dX10_isGone_28 : decode cX10_isGone 28 = .ok (.bipush 48, 2) := dz_at dqX10_isGone_p141 2 rfl
theorem dX10_isGone_30 : decode cX10_isGone 30 = .ok (.iload_n 1, 1) := dz_at dqX10_isGone_p141 3 rfl
theorem dX10_isGone_31 : decode cX10_isGone 31 = .ok (.imul, 1) := dz_at dqX10_isGone_p141 4 rfl
theorem dX10_isGone_32 : decode cX10_isGone 32 = .ok (.iload 4, 2) := dz_at dqX10_isGone_p141 5 rfl
theorem dX10_isGone_34 : decode cX10_isGone 34 = .ok (.iadd, 1) := dz_at dqX10_isGone_p141 6 rfl
theorem dX10_isGone_35 : decode cX10_isGone 35 = .ok (.iaload, 1) := dz_at dqX10_isGone_p141 7 rfl
theorem dX10_isGone_36 : decode cX10_isGone 36 = .ok (.iastore, 1) := dz_at dqX10_isGone_p141 8 rfl
theorem dX10_isGone_37 : decode cX10_isGone 37 = .ok (.aload_n 0, 1) := dz_at dqX10_isGone_p141 9 rfl
theorem dX10_isGone_38 : decode cX10_isGone 38 = .ok (.getfield 53, 3) := dz_at dqX10_isGone_p141 10 rfl
theorem dX10_isGone_41 : decode cX10_isGone 41 = .ok (.bipush 48, 2) := dz_at dqX10_isGone_p141 11 rfl
theorem dX10_isGone_43 : decode cX10_isGone 43 = .ok (.iload_n 1, 1) := dz_at dqX10_isGone_p141 12 rfl
theorem dX10_isGone_44 : decode cX10_isGone 44 = .ok (.imul, 1) := dz_at dqX10_isGone_p141 13 rfl
set_option maxRecDepth 20000 in
theorem dqX10_isGone_p142 : dz_rn 45 (cX10_isGone.data.toList.drop 45) [(2, 0), (0, 11), (1, 0), (0, 11), (0, 4), (3, 0), (2, 0), (0, 1), (0, 23), (1, 0), (0, 11), (0, 10), (0, 22), (5, 0)] = some [(45, .bipush 48, 2), (47, .iadd, 1), (48, .iload 4, 2), (50, .iadd, 1), (51, .aload_n 0, 1), (52, .getfield 53, 3), (55, .bipush 48, 2), (57, .iload_n 1, 1), (58, .imul, 1), (59, .iload 4, 2), (61, .iadd, 1), (62, .iaload, 1), (63, .iastore, 1), (64, .iinc 4 1, 3)] := by decide +kernel
theorem dX10_isGone_45 : decode cX10_isGone 45 = .ok (.bipush 48, 2) := dz_at dqX10_isGone_p142 0 rfl
theorem dX10_isGone_47 : decode cX10_isGone 47 = .ok (.iadd, 1) := dz_at dqX10_isGone_p142 1 rfl
theorem dX10_isGone_48 : decode cX10_isGone 48 = .ok (.iload 4, 2) := dz_at dqX10_isGone_p142 2 rfl
theorem dX10_isGone_50 : decode cX10_isGone 50 = .ok (.iadd, 1) := dz_at dqX10_isGone_p142 3 rfl
theorem dX10_isGone_51 : decode cX10_isGone 51 = .ok (.aload_n 0, 1) := dz_at dqX10_isGone_p142 4 rfl
theorem dX10_isGone_52 : decode cX10_isGone 52 = .ok (.getfield 53, 3) := dz_at dqX10_isGone_p142 5 rfl
theorem dX10_isGone_55 : decode cX10_isGone 55 = .ok (.bipush 48, 2) := dz_at dqX10_isGone_p142 6 rfl
theorem dX10_isGone_57 : decode cX10_isGone 57 = .ok (.iload_n 1, 1) := dz_at dqX10_isGone_p142 7 rfl
theorem dX10_isGone_58 : decode cX10_isGone 58 = .ok (.imul, 1) := dz_at dqX10_isGone_p142 8 rfl
theorem dX10_isGone_59 : decode cX10_isGone 59 = .ok (.iload 4, 2) := dz_at dqX10_isGone_p142 9 rfl
theorem dX10_isGone_61 : decode cX10_isGone 61 = .ok (.iadd, 1) := dz_at dqX10_isGone_p142 10 rfl
theorem dX10_isGone_62 : decode cX10_isGone 62 = .ok (.iaload, 1) := dz_at dqX10_isGone_p142 11 rfl
theorem dX10_isGone_63 : decode cX10_isGone 63 = .ok (.iastore, 1) := dz_at dqX10_isGone_p142 12 rfl
theorem dX10_isGone_64 : decode cX10_isGone 64 = .ok (.iinc 4 1, 3) := dz_at dqX10_isGone_p142 13 rfl
set_option maxRecDepth 20000 in
theorem dqX10_isGone_p143 : dz_rn 67 (cX10_isGone.data.toList.drop 67) [(4, 0), (0, 2), (2, 0), (4, 2), (0, 8), (4, 0), (0, 4), (0, 2), (3, 1), (1, 1), (1, 0), (0, 13), (4, 1), (1, 0)] = some [(67, .goto (-64), 3), (70, .iload_n 2, 1), (71, .bipush 8, 2), (73, .if_icmp .ne 7, 3), (76, .iconst 0, 1), (77, .goto 8, 3), (80, .aload_n 0, 1), (81, .iload_n 2, 1), (82, .invokevirtual 242, 3), (85, .istore 4, 2), (87, .iload 4, 2), (89, .iconst (-1), 1), (90, .if_icmp .eq 23, 3), (93, .iload 4, 2)] := by decide +kernel
theorem dX10_isGone_67 : decode cX10_isGone 67 = .ok (.goto (-64), 3) := dz_at dqX10_isGone_p143 0 rfl
theorem dX10_isGone_70 : decode cX10_isGone 70 = .ok (.iload_n 2, 1) := dz_at dqX10_isGone_p143 1 rfl
theorem dX10_isGone_71 : decode cX10_isGone 71 = .ok (.bipush 8, 2) := dz_at dqX10_isGone_p143 2 rfl
theorem dX10_isGone_73 : decode cX10_isGone 73 = .ok (.if_icmp .ne 7, 3) := dz_at dqX10_isGone_p143 3 rfl
theorem dX10_isGone_76 : decode cX10_isGone 76 = .ok (.iconst 0, 1) := dz_at dqX10_isGone_p143 4 rfl
theorem dX10_isGone_77 : decode cX10_isGone 77 = .ok (.goto 8, 3) := dz_at dqX10_isGone_p143 5 rfl
theorem dX10_isGone_80 : decode cX10_isGone 80 = .ok (.aload_n 0, 1) := dz_at dqX10_isGone_p143 6 rfl
theorem dX10_isGone_81 : decode cX10_isGone 81 = .ok (.iload_n 2, 1) := dz_at dqX10_isGone_p143 7 rfl
theorem dX10_isGone_82 : decode cX10_isGone 82 = .ok (.invokevirtual 242, 3) := dz_at dqX10_isGone_p143 8 rfl
theorem dX10_isGone_85 : decode cX10_isGone 85 = .ok (.istore 4, 2) := dz_at dqX10_isGone_p143 9 rfl
theorem dX10_isGone_87 : decode cX10_isGone 87 = .ok (.iload 4, 2) := dz_at dqX10_isGone_p143 10 rfl
theorem dX10_isGone_89 : decode cX10_isGone 89 = .ok (.iconst (-1), 1) := dz_at dqX10_isGone_p143 11 rfl
theorem dX10_isGone_90 : decode cX10_isGone 90 = .ok (.if_icmp .eq 23, 3) := dz_at dqX10_isGone_p143 12 rfl
theorem dX10_isGone_93 : decode cX10_isGone 93 = .ok (.iload 4, 2) := dz_at dqX10_isGone_p143 13 rfl
set_option maxRecDepth 20000 in
theorem dqX10_isGone_p144 : dz_rn 95 (cX10_isGone.data.toList.drop 95) [(0, 3), (2, 0), (0, 1), (0, 23), (0, 32), (2, 0), (0, 29), (4, 6), (0, 2), (2, 0), (4, 4), (0, 8), (0, 12), (0, 2)] = some [(95, .iload_n 3, 1), (96, .bipush 7, 2), (98, .iload_n 1, 1), (99, .imul, 1), (100, .ishr, 1), (101, .bipush 127, 2), (103, .iand, 1), (104, .if_icmp .le 11, 3), (107, .iload_n 2, 1), (108, .bipush 8, 2), (110, .if_icmp .ge 5, 3), (113, .iconst 0, 1), (114, .ireturn, 1), (115, .iload_n 2, 1)] := by decide +kernel
theorem dX10_isGone_95 : decode cX10_isGone 95 = .ok (.iload_n 3, 1) := dz_at dqX10_isGone_p144 0 rfl
theorem dX10_isGone_96 : decode cX10_isGone 96 = .ok (.bipush 7, 2) := dz_at dqX10_isGone_p144 1 rfl
theorem dX10_isGone_98 : decode cX10_isGone 98 = .ok (.iload_n 1, 1) := dz_at dqX10_isGone_p144 2 rfl
theorem dX10_isGone_99 : decode cX10_isGone 99 = .ok (.imul, 1) := dz_at dqX10_isGone_p144 3 rfl
theorem dX10_isGone_100 : decode cX10_isGone 100 = .ok (.ishr, 1) := dz_at dqX10_isGone_p144 4 rfl
theorem dX10_isGone_101 : decode cX10_isGone 101 = .ok (.bipush 127, 2) := dz_at dqX10_isGone_p144 5 rfl
theorem dX10_isGone_103 : decode cX10_isGone 103 = .ok (.iand, 1) := dz_at dqX10_isGone_p144 6 rfl
theorem dX10_isGone_104 : decode cX10_isGone 104 = .ok (.if_icmp .le 11, 3) := dz_at dqX10_isGone_p144 7 rfl
theorem dX10_isGone_107 : decode cX10_isGone 107 = .ok (.iload_n 2, 1) := dz_at dqX10_isGone_p144 8 rfl
theorem dX10_isGone_108 : decode cX10_isGone 108 = .ok (.bipush 8, 2) := dz_at dqX10_isGone_p144 9 rfl
theorem dX10_isGone_110 : decode cX10_isGone 110 = .ok (.if_icmp .ge 5, 3) := dz_at dqX10_isGone_p144 10 rfl
theorem dX10_isGone_113 : decode cX10_isGone 113 = .ok (.iconst 0, 1) := dz_at dqX10_isGone_p144 11 rfl
theorem dX10_isGone_114 : decode cX10_isGone 114 = .ok (.ireturn, 1) := dz_at dqX10_isGone_p144 12 rfl
theorem dX10_isGone_115 : decode cX10_isGone 115 = .ok (.iload_n 2, 1) := dz_at dqX10_isGone_p144 13 rfl
set_option maxRecDepth 20000 in
theorem dqX10_isGone_p145 : dz_rn 116 (cX10_isGone.data.toList.drop 116) [(2, 0), (4, 4), (0, 4), (0, 2), (2, 0), (0, 1), (0, 23), (2, 0), (0, 11), (3, 1), (0, 24), (0, 4), (2, 0), (0, 1)] = some [(116, .bipush 8, 2), (118, .if_icmp .ge 16, 3), (121, .aload_n 0, 1), (122, .iload_n 2, 1), (123, .bipush 48, 2), (125, .iload_n 1, 1), (126, .imul, 1), (127, .bipush 48, 2), (129, .iadd, 1), (130, .invokevirtual 138, 3), (133, .pop, 1), (134, .aload_n 0, 1), (135, .bipush 48, 2), (137, .iload_n 1, 1)] := by decide +kernel
theorem dX10_isGone_116 : decode cX10_isGone 116 = .ok (.bipush 8, 2) := dz_at dqX10_isGone_p145 0 rfl
theorem dX10_isGone_118 : decode cX10_isGone 118 = .ok (.if_icmp .ge 16, 3) := dz_at dqX10_isGone_p145 1 rfl
theorem dX10_isGone_121 : decode cX10_isGone 121 = .ok (.aload_n 0, 1) := dz_at dqX10_isGone_p145 2 rfl
theorem dX10_isGone_122 : decode cX10_isGone 122 = .ok (.iload_n 2, 1) := dz_at dqX10_isGone_p145 3 rfl
theorem dX10_isGone_123 : decode cX10_isGone 123 = .ok (.bipush 48, 2) := dz_at dqX10_isGone_p145 4 rfl
theorem dX10_isGone_125 : decode cX10_isGone 125 = .ok (.iload_n 1, 1) := dz_at dqX10_isGone_p145 5 rfl
theorem dX10_isGone_126 : decode cX10_isGone 126 = .ok (.imul, 1) := dz_at dqX10_isGone_p145 6 rfl
theorem dX10_isGone_127 : decode cX10_isGone 127 = .ok (.bipush 48, 2) := dz_at dqX10_isGone_p145 7 rfl
theorem dX10_isGone_129 : decode cX10_isGone 129 = .ok (.iadd, 1) := dz_at dqX10_isGone_p145 8 rfl
theorem dX10_isGone_130 : decode cX10_isGone 130 = .ok (.invokevirtual 138, 3) := dz_at dqX10_isGone_p145 9 rfl
theorem dX10_isGone_133 : decode cX10_isGone 133 = .ok (.pop, 1) := dz_at dqX10_isGone_p145 10 rfl
theorem dX10_isGone_134 : decode cX10_isGone 134 = .ok (.aload_n 0, 1) := dz_at dqX10_isGone_p145 11 rfl
theorem dX10_isGone_135 : decode cX10_isGone 135 = .ok (.bipush 48, 2) := dz_at dqX10_isGone_p145 12 rfl
theorem dX10_isGone_137 : decode cX10_isGone 137 = .ok (.iload_n 1, 1) := dz_at dqX10_isGone_p145 13 rfl
set_option maxRecDepth 20000 in
theorem dqX10_isGone_p146 : dz_rn 138 (cX10_isGone.data.toList.drop 138) [(0, 23), (2, 0), (0, 11), (2, 0), (0, 1), (0, 23), (2, 0), (0, 11), (3, 1), (0, 9), (0, 12)] = some [(138, .imul, 1), (139, .bipush 48, 2), (141, .iadd, 1), (142, .bipush 48, 2), (144, .iload_n 1, 1), (145, .imul, 1), (146, .bipush 48, 2), (148, .iadd, 1), (149, .invokevirtual 134, 3), (152, .iconst 1, 1), (153, .ireturn, 1)] := by decide +kernel
theorem dX10_isGone_138 : decode cX10_isGone 138 = .ok (.imul, 1) := dz_at dqX10_isGone_p146 0 rfl
theorem dX10_isGone_139 : decode cX10_isGone 139 = .ok (.bipush 48, 2) := dz_at dqX10_isGone_p146 1 rfl
theorem dX10_isGone_141 : decode cX10_isGone 141 = .ok (.iadd, 1) := dz_at dqX10_isGone_p146 2 rfl
theorem dX10_isGone_142 : decode cX10_isGone 142 = .ok (.bipush 48, 2) := dz_at dqX10_isGone_p146 3 rfl
theorem dX10_isGone_144 : decode cX10_isGone 144 = .ok (.iload_n 1, 1) := dz_at dqX10_isGone_p146 4 rfl
theorem dX10_isGone_145 : decode cX10_isGone 145 = .ok (.imul, 1) := dz_at dqX10_isGone_p146 5 rfl
theorem dX10_isGone_146 : decode cX10_isGone 146 = .ok (.bipush 48, 2) := dz_at dqX10_isGone_p146 6 rfl
theorem dX10_isGone_148 : decode cX10_isGone 148 = .ok (.iadd, 1) := dz_at dqX10_isGone_p146 7 rfl
theorem dX10_isGone_149 : decode cX10_isGone 149 = .ok (.invokevirtual 134, 3) := dz_at dqX10_isGone_p146 8 rfl
theorem dX10_isGone_152 : decode cX10_isGone 152 = .ok (.iconst 1, 1) := dz_at dqX10_isGone_p146 9 rfl
theorem dX10_isGone_153 : decode cX10_isGone 153 = .ok (.ireturn, 1) := dz_at dqX10_isGone_p146 10 rfl
set_option maxRecDepth 20000 in
theorem dqX10_allAt_p140 : dz_rn 0 (cX10_allAt.data.toList.drop 0) [(0, 8), (0, 20), (0, 8), (0, 21), (0, 3), (2, 0), (4, 4), (0, 2), (0, 4), (3, 0), (0, 3), (0, 10), (0, 13), (4, 2)] = some [(0, .iconst 0, 1), (1, .istore_n 2, 1), (2, .iconst 0, 1), (3, .istore_n 3, 1), (4, .iload_n 3, 1), (5, .bipush 48, 2), (7, .if_icmp .ge 34, 3), (10, .iload_n 2, 1), (11, .aload_n 0, 1), (12, .getfield 32, 3), (15, .iload_n 3, 1), (16, .iaload, 1), (17, .iconst (-1), 1), (18, .if_icmp .ne 7, 3)] := by decide +kernel
theorem dX10_allAt_0 : decode cX10_allAt 0 = .ok (.iconst 0, 1) := dz_at dqX10_allAt_p140 0 rfl
theorem dX10_allAt_1 : decode cX10_allAt 1 = .ok (.istore_n 2, 1) := dz_at dqX10_allAt_p140 1 rfl
theorem dX10_allAt_2 : decode cX10_allAt 2 = .ok (.iconst 0, 1) := dz_at dqX10_allAt_p140 2 rfl
theorem dX10_allAt_3 : decode cX10_allAt 3 = .ok (.istore_n 3, 1) := dz_at dqX10_allAt_p140 3 rfl
theorem dX10_allAt_4 : decode cX10_allAt 4 = .ok (.iload_n 3, 1) := dz_at dqX10_allAt_p140 4 rfl
theorem dX10_allAt_5 : decode cX10_allAt 5 = .ok (.bipush 48, 2) := dz_at dqX10_allAt_p140 5 rfl
theorem dX10_allAt_7 : decode cX10_allAt 7 = .ok (.if_icmp .ge 34, 3) := dz_at dqX10_allAt_p140 6 rfl
theorem dX10_allAt_10 : decode cX10_allAt 10 = .ok (.iload_n 2, 1) := dz_at dqX10_allAt_p140 7 rfl
theorem dX10_allAt_11 : decode cX10_allAt 11 = .ok (.aload_n 0, 1) := dz_at dqX10_allAt_p140 8 rfl
theorem dX10_allAt_12 : decode cX10_allAt 12 = .ok (.getfield 32, 3) := dz_at dqX10_allAt_p140 9 rfl
theorem dX10_allAt_15 : decode cX10_allAt 15 = .ok (.iload_n 3, 1) := dz_at dqX10_allAt_p140 10 rfl
theorem dX10_allAt_16 : decode cX10_allAt 16 = .ok (.iaload, 1) := dz_at dqX10_allAt_p140 11 rfl
theorem dX10_allAt_17 : decode cX10_allAt 17 = .ok (.iconst (-1), 1) := dz_at dqX10_allAt_p140 12 rfl
theorem dX10_allAt_18 : decode cX10_allAt 18 = .ok (.if_icmp .ne 7, 3) := dz_at dqX10_allAt_p140 13 rfl
set_option maxRecDepth 20000 in
theorem dqX10_allAt_p141 : dz_rn 21 (cX10_allAt.data.toList.drop 21) [(0, 8), (4, 0), (0, 4), (3, 0), (0, 1), (0, 3), (0, 11), (0, 10), (0, 11), (0, 20), (5, 0), (4, 0), (0, 2), (0, 12)] = some [(21, .iconst 0, 1), (22, .goto 11, 3), (25, .aload_n 0, 1), (26, .getfield 50, 3), (29, .iload_n 1, 1), (30, .iload_n 3, 1), (31, .iadd, 1), (32, .iaload, 1), (33, .iadd, 1), (34, .istore_n 2, 1), (35, .iinc 3 1, 3), (38, .goto (-34), 3), (41, .iload_n 2, 1), (42, .ireturn, 1)] := by decide +kernel
theorem dX10_allAt_21 : decode cX10_allAt 21 = .ok (.iconst 0, 1) := dz_at dqX10_allAt_p141 0 rfl
theorem dX10_allAt_22 : decode cX10_allAt 22 = .ok (.goto 11, 3) := dz_at dqX10_allAt_p141 1 rfl
theorem dX10_allAt_25 : decode cX10_allAt 25 = .ok (.aload_n 0, 1) := dz_at dqX10_allAt_p141 2 rfl
theorem dX10_allAt_26 : decode cX10_allAt 26 = .ok (.getfield 50, 3) := dz_at dqX10_allAt_p141 3 rfl
theorem dX10_allAt_29 : decode cX10_allAt 29 = .ok (.iload_n 1, 1) := dz_at dqX10_allAt_p141 4 rfl
theorem dX10_allAt_30 : decode cX10_allAt 30 = .ok (.iload_n 3, 1) := dz_at dqX10_allAt_p141 5 rfl
theorem dX10_allAt_31 : decode cX10_allAt 31 = .ok (.iadd, 1) := dz_at dqX10_allAt_p141 6 rfl
theorem dX10_allAt_32 : decode cX10_allAt 32 = .ok (.iaload, 1) := dz_at dqX10_allAt_p141 7 rfl
theorem dX10_allAt_33 : decode cX10_allAt 33 = .ok (.iadd, 1) := dz_at dqX10_allAt_p141 8 rfl
theorem dX10_allAt_34 : decode cX10_allAt 34 = .ok (.istore_n 2, 1) := dz_at dqX10_allAt_p141 9 rfl
theorem dX10_allAt_35 : decode cX10_allAt 35 = .ok (.iinc 3 1, 3) := dz_at dqX10_allAt_p141 10 rfl
theorem dX10_allAt_38 : decode cX10_allAt 38 = .ok (.goto (-34), 3) := dz_at dqX10_allAt_p141 11 rfl
theorem dX10_allAt_41 : decode cX10_allAt 41 = .ok (.iload_n 2, 1) := dz_at dqX10_allAt_p141 12 rfl
theorem dX10_allAt_42 : decode cX10_allAt 42 = .ok (.ireturn, 1) := dz_at dqX10_allAt_p141 13 rfl
set_option maxRecDepth 20000 in
theorem ggX10_plan_X10_areMinutes : GoodIn wsX10_plan wsX10_areMinutes := goodIn_r _ [6, 7, 8, 5, 9] rfl (by decide +kernel)
set_option maxRecDepth 20000 in
theorem gX10_plan_X10_areMinutes : GoodIn wsX10_plan (va_wsS RX10 245 yX10_areMinutes wsX10_areMinutes) := goodIn_app (goodIn_of _ (by decide +kernel)) ggX10_plan_X10_areMinutes
set_option maxRecDepth 20000 in
theorem ggX10_plan_X10_in : GoodIn wsX10_plan wsX10_in := goodIn_r _ [9] rfl (by decide +kernel)
set_option maxRecDepth 20000 in
theorem gX10_plan_X10_in : GoodIn wsX10_plan (va_wsS RX10 93 yX10_in wsX10_in) := goodIn_app (goodIn_of _ (by decide +kernel)) ggX10_plan_X10_in
set_option maxRecDepth 20000 in
theorem ggX10_plan_X10_lookAhead : GoodIn wsX10_plan wsX10_lookAhead := goodIn_r _ [13, 14, 15, 16, 17, 18, 19, 64, 65, 66, 67, 68, 69, 70, 71, 72, 73, 74, 75, 76, 77, 78, 79, 80, 81, 82, 83, 84, 85, 86, 87, 88, 89, 90, 91, 92, 93, 94, 95, 96, 97, 98, 99, 100, 101, 102] rfl (by decide +kernel)
set_option maxRecDepth 20000 in
theorem gX10_plan_X10_lookAhead : GoodIn wsX10_plan (wsV RX10 131 RX10 yX10_lookAhead wsX10_lookAhead) := goodIn_app (goodIn_of _ (by decide +kernel)) ggX10_plan_X10_lookAhead
set_option maxRecDepth 20000 in
theorem ggX10_plan_X10_isGone : GoodIn wsX10_plan wsX10_isGone := goodIn_r _ [23, 14, 17, 24, 25, 26, 5, 27, 28, 29, 30, 31, 32, 33, 34, 35, 36, 37, 38, 39, 15, 40, 41, 42, 43, 44, 45, 46, 47, 48, 49, 50, 51, 52, 53, 54, 55, 56, 57, 58, 59, 64, 65, 66, 67, 68, 69, 70, 71, 72, 73, 74, 75, 76, 77, 78, 79, 80, 81, 82, 83, 84, 85, 86, 87, 88, 89, 90, 91, 92, 93, 94, 95, 96, 97, 98, 99, 100, 101, 102] rfl (by decide +kernel)
set_option maxRecDepth 20000 in
theorem gX10_plan_X10_isGone : GoodIn wsX10_plan (wsV RX10 248 RX10 yX10_isGone wsX10_isGone) := goodIn_app (goodIn_of _ (by decide +kernel)) ggX10_plan_X10_isGone
set_option maxRecDepth 20000 in
theorem ggX10_plan_X10_allAt : GoodIn wsX10_plan wsX10_allAt := goodIn_r _ [63, 15, 14, 64, 65, 66, 67, 68, 69, 70, 71, 72, 73, 74, 75, 76, 77, 78, 79, 80, 81, 82, 83, 84, 85, 86, 87, 88, 89, 90, 91, 92, 93, 94, 95, 96, 97, 98, 99, 100, 101, 102] rfl (by decide +kernel)
set_option maxRecDepth 20000 in
theorem gX10_plan_X10_allAt : GoodIn wsX10_plan (wsV RX10 251 RX10 yX10_allAt wsX10_allAt) := goodIn_app (goodIn_of _ (by decide +kernel)) ggX10_plan_X10_allAt
set_option maxRecDepth 20000 in
theorem dqX10_plan_p140 : dz_rn 0 (cX10_plan.data.toList.drop 0) [(0, 1), (0, 2), (3, 2), (4, 7), (0, 3), (0, 13), (0, 1), (0, 9), (0, 26), (3, 2), (4, 8), (2, 0), (0, 12), (0, 4)] = some [(0, .iload_n 1, 1), (1, .iload_n 2, 1), (2, .invokestatic 245, 3), (5, .ifCond .eq 14, 3), (8, .iload_n 3, 1), (9, .iconst (-1), 1), (10, .iload_n 1, 1), (11, .iconst 1, 1), (12, .isub, 1), (13, .invokestatic 93, 3), (16, .ifCond .ne 6, 3), (19, .bipush (-3), 2), (21, .ireturn, 1), (22, .aload_n 0, 1)] := by decide +kernel
theorem dX10_plan_0 : decode cX10_plan 0 = .ok (.iload_n 1, 1) := dz_at dqX10_plan_p140 0 rfl
theorem dX10_plan_1 : decode cX10_plan 1 = .ok (.iload_n 2, 1) := dz_at dqX10_plan_p140 1 rfl
theorem dX10_plan_2 : decode cX10_plan 2 = .ok (.invokestatic 245, 3) := dz_at dqX10_plan_p140 2 rfl
theorem dX10_plan_5 : decode cX10_plan 5 = .ok (.ifCond .eq 14, 3) := dz_at dqX10_plan_p140 3 rfl
theorem dX10_plan_8 : decode cX10_plan 8 = .ok (.iload_n 3, 1) := dz_at dqX10_plan_p140 4 rfl
theorem dX10_plan_9 : decode cX10_plan 9 = .ok (.iconst (-1), 1) := dz_at dqX10_plan_p140 5 rfl
theorem dX10_plan_10 : decode cX10_plan 10 = .ok (.iload_n 1, 1) := dz_at dqX10_plan_p140 6 rfl
theorem dX10_plan_11 : decode cX10_plan 11 = .ok (.iconst 1, 1) := dz_at dqX10_plan_p140 7 rfl
theorem dX10_plan_12 : decode cX10_plan 12 = .ok (.isub, 1) := dz_at dqX10_plan_p140 8 rfl
theorem dX10_plan_13 : decode cX10_plan 13 = .ok (.invokestatic 93, 3) := dz_at dqX10_plan_p140 9 rfl
theorem dX10_plan_16 : decode cX10_plan 16 = .ok (.ifCond .ne 6, 3) := dz_at dqX10_plan_p140 10 rfl
theorem dX10_plan_19 : decode cX10_plan 19 = .ok (.bipush (-3), 2) := dz_at dqX10_plan_p140 11 rfl
theorem dX10_plan_21 : decode cX10_plan 21 = .ok (.ireturn, 1) := dz_at dqX10_plan_p140 12 rfl
theorem dX10_plan_22 : decode cX10_plan 22 = .ok (.aload_n 0, 1) := dz_at dqX10_plan_p140 13 rfl
set_option maxRecDepth 20000 in
theorem dqX10_plan_p141 : dz_rn 23 (cX10_plan.data.toList.drop 23) [(3, 1), (0, 13), (1, 1), (0, 8), (1, 1), (0, 4), (3, 0), (0, 8), (0, 13), (0, 22), (1, 0), (4, 9), (0, 4), (3, 0)] = some [(23, .invokevirtual 131, 3), (26, .iconst (-1), 1), (27, .istore 4, 2), (29, .iconst 0, 1), (30, .istore 5, 2), (32, .aload_n 0, 1), (33, .getfield 56, 3), (36, .iconst 0, 1), (37, .iconst (-1), 1), (38, .iastore, 1), (39, .iload 5, 2), (41, .ifCond .lt 134, 3), (44, .aload_n 0, 1), (45, .getfield 56, 3)] := by decide +kernel
theorem dX10_plan_23 : decode cX10_plan 23 = .ok (.invokevirtual 131, 3) := dz_at dqX10_plan_p141 0 rfl
theorem dX10_plan_26 : decode cX10_plan 26 = .ok (.iconst (-1), 1) := dz_at dqX10_plan_p141 1 rfl
theorem dX10_plan_27 : decode cX10_plan 27 = .ok (.istore 4, 2) := dz_at dqX10_plan_p141 2 rfl
theorem dX10_plan_29 : decode cX10_plan 29 = .ok (.iconst 0, 1) := dz_at dqX10_plan_p141 3 rfl
theorem dX10_plan_30 : decode cX10_plan 30 = .ok (.istore 5, 2) := dz_at dqX10_plan_p141 4 rfl
theorem dX10_plan_32 : decode cX10_plan 32 = .ok (.aload_n 0, 1) := dz_at dqX10_plan_p141 5 rfl
theorem dX10_plan_33 : decode cX10_plan 33 = .ok (.getfield 56, 3) := dz_at dqX10_plan_p141 6 rfl
theorem dX10_plan_36 : decode cX10_plan 36 = .ok (.iconst 0, 1) := dz_at dqX10_plan_p141 7 rfl
theorem dX10_plan_37 : decode cX10_plan 37 = .ok (.iconst (-1), 1) := dz_at dqX10_plan_p141 8 rfl
theorem dX10_plan_38 : decode cX10_plan 38 = .ok (.iastore, 1) := dz_at dqX10_plan_p141 9 rfl
theorem dX10_plan_39 : decode cX10_plan 39 = .ok (.iload 5, 2) := dz_at dqX10_plan_p141 10 rfl
theorem dX10_plan_41 : decode cX10_plan 41 = .ok (.ifCond .lt 134, 3) := dz_at dqX10_plan_p141 11 rfl
theorem dX10_plan_44 : decode cX10_plan 44 = .ok (.aload_n 0, 1) := dz_at dqX10_plan_p141 12 rfl
theorem dX10_plan_45 : decode cX10_plan 45 = .ok (.getfield 56, 3) := dz_at dqX10_plan_p141 13 rfl
set_option maxRecDepth 20000 in
theorem dqX10_plan_p142 : dz_rn 48 (cX10_plan.data.toList.drop 48) [(1, 0), (0, 41), (0, 10), (0, 9), (0, 11), (0, 22), (0, 4), (3, 0), (1, 0), (0, 10), (2, 0), (4, 6), (5, 0), (4, 0)] = some [(48, .iload 5, 2), (50, .dup2, 1), (51, .iaload, 1), (52, .iconst 1, 1), (53, .iadd, 1), (54, .iastore, 1), (55, .aload_n 0, 1), (56, .getfield 56, 3), (59, .iload 5, 2), (61, .iaload, 1), (62, .bipush 8, 2), (64, .if_icmp .le 9, 3), (67, .iinc 5 (-1), 3), (70, .goto (-31), 3)] := by decide +kernel
theorem dX10_plan_48 : decode cX10_plan 48 = .ok (.iload 5, 2) := dz_at dqX10_plan_p142 0 rfl
theorem dX10_plan_50 : decode cX10_plan 50 = .ok (.dup2, 1) := dz_at dqX10_plan_p142 1 rfl
theorem dX10_plan_51 : decode cX10_plan 51 = .ok (.iaload, 1) := dz_at dqX10_plan_p142 2 rfl
theorem dX10_plan_52 : decode cX10_plan 52 = .ok (.iconst 1, 1) := dz_at dqX10_plan_p142 3 rfl
theorem dX10_plan_53 : decode cX10_plan 53 = .ok (.iadd, 1) := dz_at dqX10_plan_p142 4 rfl
theorem dX10_plan_54 : decode cX10_plan 54 = .ok (.iastore, 1) := dz_at dqX10_plan_p142 5 rfl
theorem dX10_plan_55 : decode cX10_plan 55 = .ok (.aload_n 0, 1) := dz_at dqX10_plan_p142 6 rfl
theorem dX10_plan_56 : decode cX10_plan 56 = .ok (.getfield 56, 3) := dz_at dqX10_plan_p142 7 rfl
theorem dX10_plan_59 : decode cX10_plan 59 = .ok (.iload 5, 2) := dz_at dqX10_plan_p142 8 rfl
theorem dX10_plan_61 : decode cX10_plan 61 = .ok (.iaload, 1) := dz_at dqX10_plan_p142 9 rfl
theorem dX10_plan_62 : decode cX10_plan 62 = .ok (.bipush 8, 2) := dz_at dqX10_plan_p142 10 rfl
theorem dX10_plan_64 : decode cX10_plan 64 = .ok (.if_icmp .le 9, 3) := dz_at dqX10_plan_p142 11 rfl
theorem dX10_plan_67 : decode cX10_plan 67 = .ok (.iinc 5 (-1), 3) := dz_at dqX10_plan_p142 12 rfl
theorem dX10_plan_70 : decode cX10_plan 70 = .ok (.goto (-31), 3) := dz_at dqX10_plan_p142 13 rfl
set_option maxRecDepth 20000 in
theorem dqX10_plan_p143 : dz_rn 73 (cX10_plan.data.toList.drop 73) [(0, 4), (1, 0), (0, 4), (3, 0), (1, 0), (0, 10), (0, 2), (3, 1), (4, 7), (5, 0), (0, 4), (3, 0), (1, 0), (0, 13)] = some [(73, .aload_n 0, 1), (74, .iload 5, 2), (76, .aload_n 0, 1), (77, .getfield 56, 3), (80, .iload 5, 2), (82, .iaload, 1), (83, .iload_n 2, 1), (84, .invokevirtual 248, 3), (87, .ifCond .eq (-48), 3), (90, .iinc 5 1, 3), (93, .aload_n 0, 1), (94, .getfield 56, 3), (97, .iload 5, 2), (99, .iconst (-1), 1)] := by decide +kernel
theorem dX10_plan_73 : decode cX10_plan 73 = .ok (.aload_n 0, 1) := dz_at dqX10_plan_p143 0 rfl
theorem dX10_plan_74 : decode cX10_plan 74 = .ok (.iload 5, 2) := dz_at dqX10_plan_p143 1 rfl
theorem dX10_plan_76 : decode cX10_plan 76 = .ok (.aload_n 0, 1) := dz_at dqX10_plan_p143 2 rfl
theorem dX10_plan_77 : decode cX10_plan 77 = .ok (.getfield 56, 3) := dz_at dqX10_plan_p143 3 rfl
theorem dX10_plan_80 : decode cX10_plan 80 = .ok (.iload 5, 2) := dz_at dqX10_plan_p143 4 rfl
theorem dX10_plan_82 : decode cX10_plan 82 = .ok (.iaload, 1) := dz_at dqX10_plan_p143 5 rfl
theorem dX10_plan_83 : decode cX10_plan 83 = .ok (.iload_n 2, 1) := dz_at dqX10_plan_p143 6 rfl
theorem dX10_plan_84 : decode cX10_plan 84 = .ok (.invokevirtual 248, 3) := dz_at dqX10_plan_p143 7 rfl
theorem dX10_plan_87 : decode cX10_plan 87 = .ok (.ifCond .eq (-48), 3) := dz_at dqX10_plan_p143 8 rfl
theorem dX10_plan_90 : decode cX10_plan 90 = .ok (.iinc 5 1, 3) := dz_at dqX10_plan_p143 9 rfl
theorem dX10_plan_93 : decode cX10_plan 93 = .ok (.aload_n 0, 1) := dz_at dqX10_plan_p143 10 rfl
theorem dX10_plan_94 : decode cX10_plan 94 = .ok (.getfield 56, 3) := dz_at dqX10_plan_p143 11 rfl
theorem dX10_plan_97 : decode cX10_plan 97 = .ok (.iload 5, 2) := dz_at dqX10_plan_p143 12 rfl
theorem dX10_plan_99 : decode cX10_plan 99 = .ok (.iconst (-1), 1) := dz_at dqX10_plan_p143 13 rfl
set_option maxRecDepth 20000 in
theorem dqX10_plan_p144 : dz_rn 100 (cX10_plan.data.toList.drop 100) [(0, 22), (1, 0), (0, 1), (4, 2), (0, 4), (2, 0), (0, 1), (0, 23), (3, 1), (1, 1), (0, 8), (1, 1), (1, 0), (0, 1)] = some [(100, .iastore, 1), (101, .iload 5, 2), (103, .iload_n 1, 1), (104, .if_icmp .ne (-65), 3), (107, .aload_n 0, 1), (108, .bipush 48, 2), (110, .iload_n 1, 1), (111, .imul, 1), (112, .invokevirtual 251, 3), (115, .istore 6, 2), (117, .iconst 0, 1), (118, .istore 7, 2), (120, .iload 7, 2), (122, .iload_n 1, 1)] := by decide +kernel
theorem dX10_plan_100 : decode cX10_plan 100 = .ok (.iastore, 1) := dz_at dqX10_plan_p144 0 rfl
theorem dX10_plan_101 : decode cX10_plan 101 = .ok (.iload 5, 2) := dz_at dqX10_plan_p144 1 rfl
theorem dX10_plan_103 : decode cX10_plan 103 = .ok (.iload_n 1, 1) := dz_at dqX10_plan_p144 2 rfl
theorem dX10_plan_104 : decode cX10_plan 104 = .ok (.if_icmp .ne (-65), 3) := dz_at dqX10_plan_p144 3 rfl
theorem dX10_plan_107 : decode cX10_plan 107 = .ok (.aload_n 0, 1) := dz_at dqX10_plan_p144 4 rfl
theorem dX10_plan_108 : decode cX10_plan 108 = .ok (.bipush 48, 2) := dz_at dqX10_plan_p144 5 rfl
theorem dX10_plan_110 : decode cX10_plan 110 = .ok (.iload_n 1, 1) := dz_at dqX10_plan_p144 6 rfl
theorem dX10_plan_111 : decode cX10_plan 111 = .ok (.imul, 1) := dz_at dqX10_plan_p144 7 rfl
theorem dX10_plan_112 : decode cX10_plan 112 = .ok (.invokevirtual 251, 3) := dz_at dqX10_plan_p144 8 rfl
theorem dX10_plan_115 : decode cX10_plan 115 = .ok (.istore 6, 2) := dz_at dqX10_plan_p144 9 rfl
theorem dX10_plan_117 : decode cX10_plan 117 = .ok (.iconst 0, 1) := dz_at dqX10_plan_p144 10 rfl
theorem dX10_plan_118 : decode cX10_plan 118 = .ok (.istore 7, 2) := dz_at dqX10_plan_p144 11 rfl
theorem dX10_plan_120 : decode cX10_plan 120 = .ok (.iload 7, 2) := dz_at dqX10_plan_p144 12 rfl
theorem dX10_plan_122 : decode cX10_plan 122 = .ok (.iload_n 1, 1) := dz_at dqX10_plan_p144 13 rfl
set_option maxRecDepth 20000 in
theorem dqX10_plan_p145 : dz_rn 123 (cX10_plan.data.toList.drop 123) [(4, 4), (1, 0), (1, 0), (4, 6), (0, 4), (3, 0), (1, 0), (0, 4), (3, 0), (1, 0), (0, 10), (0, 22), (5, 0), (4, 0)] = some [(123, .if_icmp .ge 30, 3), (126, .iload 6, 2), (128, .iload 4, 2), (130, .if_icmp .le 23, 3), (133, .aload_n 0, 1), (134, .getfield 59, 3), (137, .iload 7, 2), (139, .aload_n 0, 1), (140, .getfield 56, 3), (143, .iload 7, 2), (145, .iaload, 1), (146, .iastore, 1), (147, .iinc 7 1, 3), (150, .goto (-30), 3)] := by decide +kernel
theorem dX10_plan_123 : decode cX10_plan 123 = .ok (.if_icmp .ge 30, 3) := dz_at dqX10_plan_p145 0 rfl
theorem dX10_plan_126 : decode cX10_plan 126 = .ok (.iload 6, 2) := dz_at dqX10_plan_p145 1 rfl
theorem dX10_plan_128 : decode cX10_plan 128 = .ok (.iload 4, 2) := dz_at dqX10_plan_p145 2 rfl
theorem dX10_plan_130 : decode cX10_plan 130 = .ok (.if_icmp .le 23, 3) := dz_at dqX10_plan_p145 3 rfl
theorem dX10_plan_133 : decode cX10_plan 133 = .ok (.aload_n 0, 1) := dz_at dqX10_plan_p145 4 rfl
theorem dX10_plan_134 : decode cX10_plan 134 = .ok (.getfield 59, 3) := dz_at dqX10_plan_p145 5 rfl
theorem dX10_plan_137 : decode cX10_plan 137 = .ok (.iload 7, 2) := dz_at dqX10_plan_p145 6 rfl
theorem dX10_plan_139 : decode cX10_plan 139 = .ok (.aload_n 0, 1) := dz_at dqX10_plan_p145 7 rfl
theorem dX10_plan_140 : decode cX10_plan 140 = .ok (.getfield 56, 3) := dz_at dqX10_plan_p145 8 rfl
theorem dX10_plan_143 : decode cX10_plan 143 = .ok (.iload 7, 2) := dz_at dqX10_plan_p145 9 rfl
theorem dX10_plan_145 : decode cX10_plan 145 = .ok (.iaload, 1) := dz_at dqX10_plan_p145 10 rfl
theorem dX10_plan_146 : decode cX10_plan 146 = .ok (.iastore, 1) := dz_at dqX10_plan_p145 11 rfl
theorem dX10_plan_147 : decode cX10_plan 147 = .ok (.iinc 7 1, 3) := dz_at dqX10_plan_p145 12 rfl
theorem dX10_plan_150 : decode cX10_plan 150 = .ok (.goto (-30), 3) := dz_at dqX10_plan_p145 13 rfl
set_option maxRecDepth 20000 in
theorem dqX10_plan_p146 : dz_rn 153 (cX10_plan.data.toList.drop 153) [(1, 0), (1, 0), (4, 6), (1, 0), (4, 0), (1, 0), (1, 1), (5, 0), (4, 0), (0, 3), (0, 13), (4, 2), (1, 0), (4, 0)] = some [(153, .iload 6, 2), (155, .iload 4, 2), (157, .if_icmp .le 8, 3), (160, .iload 6, 2), (162, .goto 5, 3), (165, .iload 4, 2), (167, .istore 4, 2), (169, .iinc 5 (-1), 3), (172, .goto (-133), 3), (175, .iload_n 3, 1), (176, .iconst (-1), 1), (177, .if_icmp .ne 8, 3), (180, .iload 4, 2), (182, .goto 9, 3)] := by decide +kernel
theorem dX10_plan_153 : decode cX10_plan 153 = .ok (.iload 6, 2) := dz_at dqX10_plan_p146 0 rfl
theorem dX10_plan_155 : decode cX10_plan 155 = .ok (.iload 4, 2) := dz_at dqX10_plan_p146 1 rfl
theorem dX10_plan_157 : decode cX10_plan 157 = .ok (.if_icmp .le 8, 3) := dz_at dqX10_plan_p146 2 rfl
theorem dX10_plan_160 : decode cX10_plan 160 = .ok (.iload 6, 2) := dz_at dqX10_plan_p146 3 rfl
theorem dX10_plan_162 : decode cX10_plan 162 = .ok (.goto 5, 3) := dz_at dqX10_plan_p146 4 rfl
theorem dX10_plan_165 : decode cX10_plan 165 = .ok (.iload 4, 2) := dz_at dqX10_plan_p146 5 rfl
theorem dX10_plan_167 : decode cX10_plan 167 = .ok (.istore 4, 2) := dz_at dqX10_plan_p146 6 rfl
theorem dX10_plan_169 : decode cX10_plan 169 = .ok (.iinc 5 (-1), 3) := dz_at dqX10_plan_p146 7 rfl
theorem dX10_plan_172 : decode cX10_plan 172 = .ok (.goto (-133), 3) := dz_at dqX10_plan_p146 8 rfl
theorem dX10_plan_175 : decode cX10_plan 175 = .ok (.iload_n 3, 1) := dz_at dqX10_plan_p146 9 rfl
theorem dX10_plan_176 : decode cX10_plan 176 = .ok (.iconst (-1), 1) := dz_at dqX10_plan_p146 10 rfl
theorem dX10_plan_177 : decode cX10_plan 177 = .ok (.if_icmp .ne 8, 3) := dz_at dqX10_plan_p146 11 rfl
theorem dX10_plan_180 : decode cX10_plan 180 = .ok (.iload 4, 2) := dz_at dqX10_plan_p146 12 rfl
theorem dX10_plan_182 : decode cX10_plan 182 = .ok (.goto 9, 3) := dz_at dqX10_plan_p146 13 rfl
set_option maxRecDepth 20000 in
theorem dqX10_plan_p147 : dz_rn 185 (cX10_plan.data.toList.drop 185) [(0, 4), (3, 0), (0, 3), (0, 10), (0, 12)] = some [(185, .aload_n 0, 1), (186, .getfield 59, 3), (189, .iload_n 3, 1), (190, .iaload, 1), (191, .ireturn, 1)] := by decide +kernel
theorem dX10_plan_185 : decode cX10_plan 185 = .ok (.aload_n 0, 1) := dz_at dqX10_plan_p147 0 rfl
theorem dX10_plan_186 : decode cX10_plan 186 = .ok (.getfield 59, 3) := dz_at dqX10_plan_p147 1 rfl
theorem dX10_plan_189 : decode cX10_plan 189 = .ok (.iload_n 3, 1) := dz_at dqX10_plan_p147 2 rfl
theorem dX10_plan_190 : decode cX10_plan 190 = .ok (.iaload, 1) := dz_at dqX10_plan_p147 3 rfl
theorem dX10_plan_191 : decode cX10_plan 191 = .ok (.ireturn, 1) := dz_at dqX10_plan_p147 4 rfl
set_option maxRecDepth 20000 in
theorem ggX10_judge_X10_areMinutes : GoodIn wsX10_judge wsX10_areMinutes := goodIn_r _ [4, 5, 6, 3, 7] rfl (by decide +kernel)
set_option maxRecDepth 20000 in
theorem gX10_judge_X10_areMinutes : GoodIn wsX10_judge (va_wsS RX10 245 yX10_areMinutes wsX10_areMinutes) := goodIn_app (goodIn_of _ (by decide +kernel)) ggX10_judge_X10_areMinutes
set_option maxRecDepth 20000 in
theorem ggX10_judge_X10_lookAhead : GoodIn wsX10_judge wsX10_lookAhead := goodIn_r _ [11, 12, 13, 14, 15, 16, 17, 62, 63, 64, 65, 66, 67, 68, 69, 70, 71, 72, 73, 74, 75, 76, 77, 78, 79, 80, 81, 82, 83, 84, 85, 86, 87, 88, 89, 90, 91, 92, 93, 94, 95, 96, 97, 98, 99, 100] rfl (by decide +kernel)
set_option maxRecDepth 20000 in
theorem gX10_judge_X10_lookAhead : GoodIn wsX10_judge (wsV RX10 131 RX10 yX10_lookAhead wsX10_lookAhead) := goodIn_app (goodIn_of _ (by decide +kernel)) ggX10_judge_X10_lookAhead
set_option maxRecDepth 20000 in
theorem ggX10_judge_X10_isGone : GoodIn wsX10_judge wsX10_isGone := goodIn_r _ [21, 12, 15, 22, 23, 24, 3, 25, 26, 27, 28, 29, 30, 31, 32, 33, 34, 35, 36, 37, 13, 38, 39, 40, 41, 42, 43, 44, 45, 46, 47, 48, 49, 50, 51, 52, 53, 54, 55, 56, 57, 62, 63, 64, 65, 66, 67, 68, 69, 70, 71, 72, 73, 74, 75, 76, 77, 78, 79, 80, 81, 82, 83, 84, 85, 86, 87, 88, 89, 90, 91, 92, 93, 94, 95, 96, 97, 98, 99, 100] rfl (by decide +kernel)
set_option maxRecDepth 20000 in
theorem gX10_judge_X10_isGone : GoodIn wsX10_judge (wsV RX10 248 RX10 yX10_isGone wsX10_isGone) := goodIn_app (goodIn_of _ (by decide +kernel)) ggX10_judge_X10_isGone
set_option maxRecDepth 20000 in
theorem ggX10_judge_X10_allAt : GoodIn wsX10_judge wsX10_allAt := goodIn_r _ [61, 13, 12, 62, 63, 64, 65, 66, 67, 68, 69, 70, 71, 72, 73, 74, 75, 76, 77, 78, 79, 80, 81, 82, 83, 84, 85, 86, 87, 88, 89, 90, 91, 92, 93, 94, 95, 96, 97, 98, 99, 100] rfl (by decide +kernel)
set_option maxRecDepth 20000 in
theorem gX10_judge_X10_allAt : GoodIn wsX10_judge (wsV RX10 251 RX10 yX10_allAt wsX10_allAt) := goodIn_app (goodIn_of _ (by decide +kernel)) ggX10_judge_X10_allAt
set_option maxRecDepth 20000 in
theorem dqX10_judge_p140 : dz_rn 0 (cX10_judge.data.toList.drop 0) [(0, 2), (0, 3), (3, 2), (4, 8), (2, 0), (0, 12), (0, 8), (1, 1), (1, 0), (0, 2), (4, 4), (0, 1), (0, 16), (1, 0)] = some [(0, .iload_n 2, 1), (1, .iload_n 3, 1), (2, .invokestatic 245, 3), (5, .ifCond .ne 6, 3), (8, .bipush (-3), 2), (10, .ireturn, 1), (11, .iconst 0, 1), (12, .istore 4, 2), (14, .iload 4, 2), (16, .iload_n 2, 1), (17, .if_icmp .ge 26, 3), (20, .iload_n 1, 1), (21, .iconst 4, 1), (22, .iload 4, 2)] := by decide +kernel
theorem dX10_judge_0 : decode cX10_judge 0 = .ok (.iload_n 2, 1) := dz_at dqX10_judge_p140 0 rfl
theorem dX10_judge_1 : decode cX10_judge 1 = .ok (.iload_n 3, 1) := dz_at dqX10_judge_p140 1 rfl
theorem dX10_judge_2 : decode cX10_judge 2 = .ok (.invokestatic 245, 3) := dz_at dqX10_judge_p140 2 rfl
theorem dX10_judge_5 : decode cX10_judge 5 = .ok (.ifCond .ne 6, 3) := dz_at dqX10_judge_p140 3 rfl
theorem dX10_judge_8 : decode cX10_judge 8 = .ok (.bipush (-3), 2) := dz_at dqX10_judge_p140 4 rfl
theorem dX10_judge_10 : decode cX10_judge 10 = .ok (.ireturn, 1) := dz_at dqX10_judge_p140 5 rfl
theorem dX10_judge_11 : decode cX10_judge 11 = .ok (.iconst 0, 1) := dz_at dqX10_judge_p140 6 rfl
theorem dX10_judge_12 : decode cX10_judge 12 = .ok (.istore 4, 2) := dz_at dqX10_judge_p140 7 rfl
theorem dX10_judge_14 : decode cX10_judge 14 = .ok (.iload 4, 2) := dz_at dqX10_judge_p140 8 rfl
theorem dX10_judge_16 : decode cX10_judge 16 = .ok (.iload_n 2, 1) := dz_at dqX10_judge_p140 9 rfl
theorem dX10_judge_17 : decode cX10_judge 17 = .ok (.if_icmp .ge 26, 3) := dz_at dqX10_judge_p140 10 rfl
theorem dX10_judge_20 : decode cX10_judge 20 = .ok (.iload_n 1, 1) := dz_at dqX10_judge_p140 11 rfl
theorem dX10_judge_21 : decode cX10_judge 21 = .ok (.iconst 4, 1) := dz_at dqX10_judge_p140 12 rfl
theorem dX10_judge_22 : decode cX10_judge 22 = .ok (.iload 4, 2) := dz_at dqX10_judge_p140 13 rfl
set_option maxRecDepth 20000 in
theorem dqX10_judge_p141 : dz_rn 24 (cX10_judge.data.toList.drop 24) [(0, 23), (0, 32), (2, 0), (0, 29), (2, 0), (4, 6), (2, 0), (0, 12), (5, 0), (4, 0), (0, 4), (3, 1), (0, 8), (1, 1)] = some [(24, .imul, 1), (25, .ishr, 1), (26, .bipush 15, 2), (28, .iand, 1), (29, .bipush 8, 2), (31, .if_icmp .le 6, 3), (34, .bipush (-3), 2), (36, .ireturn, 1), (37, .iinc 4 1, 3), (40, .goto (-26), 3), (43, .aload_n 0, 1), (44, .invokevirtual 131, 3), (47, .iconst 0, 1), (48, .istore 4, 2)] := by decide +kernel
theorem dX10_judge_24 : decode cX10_judge 24 = .ok (.imul, 1) := dz_at dqX10_judge_p141 0 rfl
theorem dX10_judge_25 : decode cX10_judge 25 = .ok (.ishr, 1) := dz_at dqX10_judge_p141 1 rfl
theorem dX10_judge_26 : decode cX10_judge 26 = .ok (.bipush 15, 2) := dz_at dqX10_judge_p141 2 rfl
theorem dX10_judge_28 : decode cX10_judge 28 = .ok (.iand, 1) := dz_at dqX10_judge_p141 3 rfl
theorem dX10_judge_29 : decode cX10_judge 29 = .ok (.bipush 8, 2) := dz_at dqX10_judge_p141 4 rfl
theorem dX10_judge_31 : decode cX10_judge 31 = .ok (.if_icmp .le 6, 3) := dz_at dqX10_judge_p141 5 rfl
theorem dX10_judge_34 : decode cX10_judge 34 = .ok (.bipush (-3), 2) := dz_at dqX10_judge_p141 6 rfl
theorem dX10_judge_36 : decode cX10_judge 36 = .ok (.ireturn, 1) := dz_at dqX10_judge_p141 7 rfl
theorem dX10_judge_37 : decode cX10_judge 37 = .ok (.iinc 4 1, 3) := dz_at dqX10_judge_p141 8 rfl
theorem dX10_judge_40 : decode cX10_judge 40 = .ok (.goto (-26), 3) := dz_at dqX10_judge_p141 9 rfl
theorem dX10_judge_43 : decode cX10_judge 43 = .ok (.aload_n 0, 1) := dz_at dqX10_judge_p141 10 rfl
theorem dX10_judge_44 : decode cX10_judge 44 = .ok (.invokevirtual 131, 3) := dz_at dqX10_judge_p141 11 rfl
theorem dX10_judge_47 : decode cX10_judge 47 = .ok (.iconst 0, 1) := dz_at dqX10_judge_p141 12 rfl
theorem dX10_judge_48 : decode cX10_judge 48 = .ok (.istore 4, 2) := dz_at dqX10_judge_p141 13 rfl
set_option maxRecDepth 20000 in
theorem dqX10_judge_p142 : dz_rn 50 (cX10_judge.data.toList.drop 50) [(1, 0), (0, 2), (4, 4), (0, 4), (1, 0), (0, 1), (0, 16), (1, 0), (0, 23), (0, 32), (2, 0), (0, 29), (0, 3), (3, 1)] = some [(50, .iload 4, 2), (52, .iload_n 2, 1), (53, .if_icmp .ge 30, 3), (56, .aload_n 0, 1), (57, .iload 4, 2), (59, .iload_n 1, 1), (60, .iconst 4, 1), (61, .iload 4, 2), (63, .imul, 1), (64, .ishr, 1), (65, .bipush 15, 2), (67, .iand, 1), (68, .iload_n 3, 1), (69, .invokevirtual 248, 3)] := by decide +kernel
theorem dX10_judge_50 : decode cX10_judge 50 = .ok (.iload 4, 2) := dz_at dqX10_judge_p142 0 rfl
theorem dX10_judge_52 : decode cX10_judge 52 = .ok (.iload_n 2, 1) := dz_at dqX10_judge_p142 1 rfl
theorem dX10_judge_53 : decode cX10_judge 53 = .ok (.if_icmp .ge 30, 3) := dz_at dqX10_judge_p142 2 rfl
theorem dX10_judge_56 : decode cX10_judge 56 = .ok (.aload_n 0, 1) := dz_at dqX10_judge_p142 3 rfl
theorem dX10_judge_57 : decode cX10_judge 57 = .ok (.iload 4, 2) := dz_at dqX10_judge_p142 4 rfl
theorem dX10_judge_59 : decode cX10_judge 59 = .ok (.iload_n 1, 1) := dz_at dqX10_judge_p142 5 rfl
theorem dX10_judge_60 : decode cX10_judge 60 = .ok (.iconst 4, 1) := dz_at dqX10_judge_p142 6 rfl
theorem dX10_judge_61 : decode cX10_judge 61 = .ok (.iload 4, 2) := dz_at dqX10_judge_p142 7 rfl
theorem dX10_judge_63 : decode cX10_judge 63 = .ok (.imul, 1) := dz_at dqX10_judge_p142 8 rfl
theorem dX10_judge_64 : decode cX10_judge 64 = .ok (.ishr, 1) := dz_at dqX10_judge_p142 9 rfl
theorem dX10_judge_65 : decode cX10_judge 65 = .ok (.bipush 15, 2) := dz_at dqX10_judge_p142 10 rfl
theorem dX10_judge_67 : decode cX10_judge 67 = .ok (.iand, 1) := dz_at dqX10_judge_p142 11 rfl
theorem dX10_judge_68 : decode cX10_judge 68 = .ok (.iload_n 3, 1) := dz_at dqX10_judge_p142 12 rfl
theorem dX10_judge_69 : decode cX10_judge 69 = .ok (.invokevirtual 248, 3) := dz_at dqX10_judge_p142 13 rfl
set_option maxRecDepth 20000 in
theorem dqX10_judge_p143 : dz_rn 72 (cX10_judge.data.toList.drop 72) [(4, 8), (0, 13), (0, 12), (5, 0), (4, 0), (0, 4), (2, 0), (0, 2), (0, 23), (3, 1), (0, 12)] = some [(72, .ifCond .ne 5, 3), (75, .iconst (-1), 1), (76, .ireturn, 1), (77, .iinc 4 1, 3), (80, .goto (-30), 3), (83, .aload_n 0, 1), (84, .bipush 48, 2), (86, .iload_n 2, 1), (87, .imul, 1), (88, .invokevirtual 251, 3), (91, .ireturn, 1)] := by decide +kernel
theorem dX10_judge_72 : decode cX10_judge 72 = .ok (.ifCond .ne 5, 3) := dz_at dqX10_judge_p143 0 rfl
theorem dX10_judge_75 : decode cX10_judge 75 = .ok (.iconst (-1), 1) := dz_at dqX10_judge_p143 1 rfl
theorem dX10_judge_76 : decode cX10_judge 76 = .ok (.ireturn, 1) := dz_at dqX10_judge_p143 2 rfl
theorem dX10_judge_77 : decode cX10_judge 77 = .ok (.iinc 4 1, 3) := dz_at dqX10_judge_p143 3 rfl
theorem dX10_judge_80 : decode cX10_judge 80 = .ok (.goto (-30), 3) := dz_at dqX10_judge_p143 4 rfl
theorem dX10_judge_83 : decode cX10_judge 83 = .ok (.aload_n 0, 1) := dz_at dqX10_judge_p143 5 rfl
theorem dX10_judge_84 : decode cX10_judge 84 = .ok (.bipush 48, 2) := dz_at dqX10_judge_p143 6 rfl
theorem dX10_judge_86 : decode cX10_judge 86 = .ok (.iload_n 2, 1) := dz_at dqX10_judge_p143 7 rfl
theorem dX10_judge_87 : decode cX10_judge 87 = .ok (.imul, 1) := dz_at dqX10_judge_p143 8 rfl
theorem dX10_judge_88 : decode cX10_judge 88 = .ok (.invokevirtual 251, 3) := dz_at dqX10_judge_p143 9 rfl
theorem dX10_judge_91 : decode cX10_judge 91 = .ok (.ireturn, 1) := dz_at dqX10_judge_p143 10 rfl
end
section
set_option maxRecDepth 20000 in
theorem dqX10_init_p150 : dz_rn 0 (cX10_init.data.toList.drop 0) [(0, 4), (3, 5), (0, 4), (2, 0)] = some [(0, .aload_n 0, 1), (1, .invokespecial 1, 3), (4, .aload_n 0, 1), (5, .bipush 14, 2)] := by decide +kernel
theorem dX10_init_0 : decode cX10_init 0 = .ok (.aload_n 0, 1) := dz_at dqX10_init_p150 0 rfl
theorem dX10_init_1 : decode cX10_init 1 = .ok (.invokespecial 1, 3) := dz_at dqX10_init_p150 1 rfl
theorem dX10_init_4 : decode cX10_init 4 = .ok (.aload_n 0, 1) := dz_at dqX10_init_p150 2 rfl
theorem dX10_init_5 : decode cX10_init 5 = .ok (.bipush 14, 2) := dz_at dqX10_init_p150 3 rfl
theorem dX10_init_7 : decode cX10_init 7 = .ok (.newarray .int, 2) := by decide +kernel
set_option maxRecDepth 20000 in
theorem dqX10_init_p151 : dz_rn 9 (cX10_init.data.toList.drop 9) [(3, 3), (0, 4), (2, 0)] = some [(9, .putfield 7, 3), (12, .aload_n 0, 1), (13, .bipush 14, 2)] := by decide +kernel
theorem dX10_init_9 : decode cX10_init 9 = .ok (.putfield 7, 3) := dz_at dqX10_init_p151 0 rfl
theorem dX10_init_12 : decode cX10_init 12 = .ok (.aload_n 0, 1) := dz_at dqX10_init_p151 1 rfl
theorem dX10_init_13 : decode cX10_init 13 = .ok (.bipush 14, 2) := dz_at dqX10_init_p151 2 rfl
theorem dX10_init_15 : decode cX10_init 15 = .ok (.newarray .int, 2) := by decide +kernel
set_option maxRecDepth 20000 in
theorem dqX10_init_p152 : dz_rn 17 (cX10_init.data.toList.drop 17) [(3, 3), (0, 4), (2, 0)] = some [(17, .putfield 13, 3), (20, .aload_n 0, 1), (21, .bipush 8, 2)] := by decide +kernel
theorem dX10_init_17 : decode cX10_init 17 = .ok (.putfield 13, 3) := dz_at dqX10_init_p152 0 rfl
theorem dX10_init_20 : decode cX10_init 20 = .ok (.aload_n 0, 1) := dz_at dqX10_init_p152 1 rfl
theorem dX10_init_21 : decode cX10_init 21 = .ok (.bipush 8, 2) := dz_at dqX10_init_p152 2 rfl
theorem dX10_init_23 : decode cX10_init 23 = .ok (.newarray .int, 2) := by decide +kernel
set_option maxRecDepth 20000 in
theorem dqX10_init_p153 : dz_rn 25 (cX10_init.data.toList.drop 25) [(3, 3), (0, 4), (2, 0)] = some [(25, .putfield 16, 3), (28, .aload_n 0, 1), (29, .bipush 24, 2)] := by decide +kernel
theorem dX10_init_25 : decode cX10_init 25 = .ok (.putfield 16, 3) := dz_at dqX10_init_p153 0 rfl
theorem dX10_init_28 : decode cX10_init 28 = .ok (.aload_n 0, 1) := dz_at dqX10_init_p153 1 rfl
theorem dX10_init_29 : decode cX10_init 29 = .ok (.bipush 24, 2) := dz_at dqX10_init_p153 2 rfl
theorem dX10_init_31 : decode cX10_init 31 = .ok (.newarray .int, 2) := by decide +kernel
set_option maxRecDepth 20000 in
theorem dqX10_init_p154 : dz_rn 33 (cX10_init.data.toList.drop 33) [(3, 3), (0, 4), (0, 16), (3, 3), (0, 4), (2, 0), (3, 3), (0, 4), (2, 0)] = some [(33, .putfield 19, 3), (36, .aload_n 0, 1), (37, .iconst 4, 1), (38, .putfield 22, 3), (41, .aload_n 0, 1), (42, .bipush 50, 2), (44, .putfield 26, 3), (47, .aload_n 0, 1), (48, .bipush 11, 2)] := by decide +kernel
theorem dX10_init_33 : decode cX10_init 33 = .ok (.putfield 19, 3) := dz_at dqX10_init_p154 0 rfl
theorem dX10_init_36 : decode cX10_init 36 = .ok (.aload_n 0, 1) := dz_at dqX10_init_p154 1 rfl
theorem dX10_init_37 : decode cX10_init 37 = .ok (.iconst 4, 1) := dz_at dqX10_init_p154 2 rfl
theorem dX10_init_38 : decode cX10_init 38 = .ok (.putfield 22, 3) := dz_at dqX10_init_p154 3 rfl
theorem dX10_init_41 : decode cX10_init 41 = .ok (.aload_n 0, 1) := dz_at dqX10_init_p154 4 rfl
theorem dX10_init_42 : decode cX10_init 42 = .ok (.bipush 50, 2) := dz_at dqX10_init_p154 5 rfl
theorem dX10_init_44 : decode cX10_init 44 = .ok (.putfield 26, 3) := dz_at dqX10_init_p154 6 rfl
theorem dX10_init_47 : decode cX10_init 47 = .ok (.aload_n 0, 1) := dz_at dqX10_init_p154 7 rfl
theorem dX10_init_48 : decode cX10_init 48 = .ok (.bipush 11, 2) := dz_at dqX10_init_p154 8 rfl
theorem dX10_init_50 : decode cX10_init 50 = .ok (.newarray .int, 2) := by decide +kernel
set_option maxRecDepth 20000 in
theorem dqX10_init_p155 : dz_rn 52 (cX10_init.data.toList.drop 52) [(3, 3), (0, 4), (2, 0)] = some [(52, .putfield 29, 3), (55, .aload_n 0, 1), (56, .bipush 48, 2)] := by decide +kernel
theorem dX10_init_52 : decode cX10_init 52 = .ok (.putfield 29, 3) := dz_at dqX10_init_p155 0 rfl
theorem dX10_init_55 : decode cX10_init 55 = .ok (.aload_n 0, 1) := dz_at dqX10_init_p155 1 rfl
theorem dX10_init_56 : decode cX10_init 56 = .ok (.bipush 48, 2) := dz_at dqX10_init_p155 2 rfl
theorem dX10_init_58 : decode cX10_init 58 = .ok (.newarray .int, 2) := by decide +kernel
set_option maxRecDepth 20000 in
theorem dqX10_init_p156 : dz_rn 60 (cX10_init.data.toList.drop 60) [(3, 3), (0, 4), (2, 0)] = some [(60, .putfield 32, 3), (63, .aload_n 0, 1), (64, .bipush 48, 2)] := by decide +kernel
theorem dX10_init_60 : decode cX10_init 60 = .ok (.putfield 32, 3) := dz_at dqX10_init_p156 0 rfl
theorem dX10_init_63 : decode cX10_init 63 = .ok (.aload_n 0, 1) := dz_at dqX10_init_p156 1 rfl
theorem dX10_init_64 : decode cX10_init 64 = .ok (.bipush 48, 2) := dz_at dqX10_init_p156 2 rfl
theorem dX10_init_66 : decode cX10_init 66 = .ok (.newarray .int, 2) := by decide +kernel
set_option maxRecDepth 20000 in
theorem dqX10_init_p157 : dz_rn 68 (cX10_init.data.toList.drop 68) [(3, 3), (0, 4), (2, 0)] = some [(68, .putfield 35, 3), (71, .aload_n 0, 1), (72, .bipush 48, 2)] := by decide +kernel
theorem dX10_init_68 : decode cX10_init 68 = .ok (.putfield 35, 3) := dz_at dqX10_init_p157 0 rfl
theorem dX10_init_71 : decode cX10_init 71 = .ok (.aload_n 0, 1) := dz_at dqX10_init_p157 1 rfl
theorem dX10_init_72 : decode cX10_init 72 = .ok (.bipush 48, 2) := dz_at dqX10_init_p157 2 rfl
theorem dX10_init_74 : decode cX10_init 74 = .ok (.newarray .int, 2) := by decide +kernel
set_option maxRecDepth 20000 in
theorem dqX10_init_p158 : dz_rn 76 (cX10_init.data.toList.drop 76) [(3, 3), (0, 4), (2, 0)] = some [(76, .putfield 38, 3), (79, .aload_n 0, 1), (80, .bipush 48, 2)] := by decide +kernel
theorem dX10_init_76 : decode cX10_init 76 = .ok (.putfield 38, 3) := dz_at dqX10_init_p158 0 rfl
theorem dX10_init_79 : decode cX10_init 79 = .ok (.aload_n 0, 1) := dz_at dqX10_init_p158 1 rfl
theorem dX10_init_80 : decode cX10_init 80 = .ok (.bipush 48, 2) := dz_at dqX10_init_p158 2 rfl
theorem dX10_init_82 : decode cX10_init 82 = .ok (.newarray .int, 2) := by decide +kernel
set_option maxRecDepth 20000 in
theorem dqX10_init_p159 : dz_rn 84 (cX10_init.data.toList.drop 84) [(3, 3), (0, 4), (2, 0)] = some [(84, .putfield 41, 3), (87, .aload_n 0, 1), (88, .bipush 48, 2)] := by decide +kernel
theorem dX10_init_84 : decode cX10_init 84 = .ok (.putfield 41, 3) := dz_at dqX10_init_p159 0 rfl
theorem dX10_init_87 : decode cX10_init 87 = .ok (.aload_n 0, 1) := dz_at dqX10_init_p159 1 rfl
theorem dX10_init_88 : decode cX10_init 88 = .ok (.bipush 48, 2) := dz_at dqX10_init_p159 2 rfl
theorem dX10_init_90 : decode cX10_init 90 = .ok (.newarray .int, 2) := by decide +kernel
set_option maxRecDepth 20000 in
theorem dqX10_init_p1510 : dz_rn 92 (cX10_init.data.toList.drop 92) [(3, 3), (0, 4), (2, 0)] = some [(92, .putfield 44, 3), (95, .aload_n 0, 1), (96, .bipush 8, 2)] := by decide +kernel
theorem dX10_init_92 : decode cX10_init 92 = .ok (.putfield 44, 3) := dz_at dqX10_init_p1510 0 rfl
theorem dX10_init_95 : decode cX10_init 95 = .ok (.aload_n 0, 1) := dz_at dqX10_init_p1510 1 rfl
theorem dX10_init_96 : decode cX10_init 96 = .ok (.bipush 8, 2) := dz_at dqX10_init_p1510 2 rfl
theorem dX10_init_98 : decode cX10_init 98 = .ok (.newarray .int, 2) := by decide +kernel
set_option maxRecDepth 20000 in
theorem dqX10_init_p1511 : dz_rn 100 (cX10_init.data.toList.drop 100) [(3, 3), (0, 4), (4, 13)] = some [(100, .putfield 47, 3), (103, .aload_n 0, 1), (104, .sipush 240, 3)] := by decide +kernel
theorem dX10_init_100 : decode cX10_init 100 = .ok (.putfield 47, 3) := dz_at dqX10_init_p1511 0 rfl
theorem dX10_init_103 : decode cX10_init 103 = .ok (.aload_n 0, 1) := dz_at dqX10_init_p1511 1 rfl
theorem dX10_init_104 : decode cX10_init 104 = .ok (.sipush 240, 3) := dz_at dqX10_init_p1511 2 rfl
theorem dX10_init_107 : decode cX10_init 107 = .ok (.newarray .int, 2) := by decide +kernel
set_option maxRecDepth 20000 in
theorem dqX10_init_p1512 : dz_rn 109 (cX10_init.data.toList.drop 109) [(3, 3), (0, 4), (4, 13)] = some [(109, .putfield 50, 3), (112, .aload_n 0, 1), (113, .sipush 240, 3)] := by decide +kernel
theorem dX10_init_109 : decode cX10_init 109 = .ok (.putfield 50, 3) := dz_at dqX10_init_p1512 0 rfl
theorem dX10_init_112 : decode cX10_init 112 = .ok (.aload_n 0, 1) := dz_at dqX10_init_p1512 1 rfl
theorem dX10_init_113 : decode cX10_init 113 = .ok (.sipush 240, 3) := dz_at dqX10_init_p1512 2 rfl
theorem dX10_init_116 : decode cX10_init 116 = .ok (.newarray .int, 2) := by decide +kernel
set_option maxRecDepth 20000 in
theorem dqX10_init_p1513 : dz_rn 118 (cX10_init.data.toList.drop 118) [(3, 3), (0, 4), (0, 17)] = some [(118, .putfield 53, 3), (121, .aload_n 0, 1), (122, .iconst 5, 1)] := by decide +kernel
theorem dX10_init_118 : decode cX10_init 118 = .ok (.putfield 53, 3) := dz_at dqX10_init_p1513 0 rfl
theorem dX10_init_121 : decode cX10_init 121 = .ok (.aload_n 0, 1) := dz_at dqX10_init_p1513 1 rfl
theorem dX10_init_122 : decode cX10_init 122 = .ok (.iconst 5, 1) := dz_at dqX10_init_p1513 2 rfl
theorem dX10_init_123 : decode cX10_init 123 = .ok (.newarray .int, 2) := by decide +kernel
set_option maxRecDepth 20000 in
theorem dqX10_init_p1514 : dz_rn 125 (cX10_init.data.toList.drop 125) [(3, 3), (0, 4), (0, 16)] = some [(125, .putfield 56, 3), (128, .aload_n 0, 1), (129, .iconst 4, 1)] := by decide +kernel
theorem dX10_init_125 : decode cX10_init 125 = .ok (.putfield 56, 3) := dz_at dqX10_init_p1514 0 rfl
theorem dX10_init_128 : decode cX10_init 128 = .ok (.aload_n 0, 1) := dz_at dqX10_init_p1514 1 rfl
theorem dX10_init_129 : decode cX10_init 129 = .ok (.iconst 4, 1) := dz_at dqX10_init_p1514 2 rfl
theorem dX10_init_130 : decode cX10_init 130 = .ok (.newarray .int, 2) := by decide +kernel
set_option maxRecDepth 20000 in
theorem dqX10_init_p1515 : dz_rn 132 (cX10_init.data.toList.drop 132) [(3, 3), (0, 4), (4, 13)] = some [(132, .putfield 59, 3), (135, .aload_n 0, 1), (136, .sipush 160, 3)] := by decide +kernel
theorem dX10_init_132 : decode cX10_init 132 = .ok (.putfield 59, 3) := dz_at dqX10_init_p1515 0 rfl
theorem dX10_init_135 : decode cX10_init 135 = .ok (.aload_n 0, 1) := dz_at dqX10_init_p1515 1 rfl
theorem dX10_init_136 : decode cX10_init 136 = .ok (.sipush 160, 3) := dz_at dqX10_init_p1515 2 rfl
theorem dX10_init_139 : decode cX10_init 139 = .ok (.newarray .int, 2) := by decide +kernel
set_option maxRecDepth 20000 in
theorem dqX10_init_p1516 : dz_rn 141 (cX10_init.data.toList.drop 141) [(3, 3), (0, 4), (2, 0)] = some [(141, .putfield 62, 3), (144, .aload_n 0, 1), (145, .bipush 30, 2)] := by decide +kernel
theorem dX10_init_141 : decode cX10_init 141 = .ok (.putfield 62, 3) := dz_at dqX10_init_p1516 0 rfl
theorem dX10_init_144 : decode cX10_init 144 = .ok (.aload_n 0, 1) := dz_at dqX10_init_p1516 1 rfl
theorem dX10_init_145 : decode cX10_init 145 = .ok (.bipush 30, 2) := dz_at dqX10_init_p1516 2 rfl
theorem dX10_init_147 : decode cX10_init 147 = .ok (.newarray .int, 2) := by decide +kernel
set_option maxRecDepth 20000 in
theorem dqX10_init_p1517 : dz_rn 149 (cX10_init.data.toList.drop 149) [(3, 3), (0, 4), (2, 0)] = some [(149, .putfield 65, 3), (152, .aload_n 0, 1), (153, .bipush 30, 2)] := by decide +kernel
theorem dX10_init_149 : decode cX10_init 149 = .ok (.putfield 65, 3) := dz_at dqX10_init_p1517 0 rfl
theorem dX10_init_152 : decode cX10_init 152 = .ok (.aload_n 0, 1) := dz_at dqX10_init_p1517 1 rfl
theorem dX10_init_153 : decode cX10_init 153 = .ok (.bipush 30, 2) := dz_at dqX10_init_p1517 2 rfl
theorem dX10_init_155 : decode cX10_init 155 = .ok (.newarray .int, 2) := by decide +kernel
set_option maxRecDepth 20000 in
theorem dqX10_init_p1518 : dz_rn 157 (cX10_init.data.toList.drop 157) [(3, 3), (0, 4), (2, 0)] = some [(157, .putfield 68, 3), (160, .aload_n 0, 1), (161, .bipush 8, 2)] := by decide +kernel
theorem dX10_init_157 : decode cX10_init 157 = .ok (.putfield 68, 3) := dz_at dqX10_init_p1518 0 rfl
theorem dX10_init_160 : decode cX10_init 160 = .ok (.aload_n 0, 1) := dz_at dqX10_init_p1518 1 rfl
theorem dX10_init_161 : decode cX10_init 161 = .ok (.bipush 8, 2) := dz_at dqX10_init_p1518 2 rfl
theorem dX10_init_163 : decode cX10_init 163 = .ok (.newarray .int, 2) := by decide +kernel
set_option maxRecDepth 20000 in
theorem dqX10_init_p1519 : dz_rn 165 (cX10_init.data.toList.drop 165) [(3, 3), (0, 4), (2, 0)] = some [(165, .putfield 71, 3), (168, .aload_n 0, 1), (169, .bipush 8, 2)] := by decide +kernel
theorem dX10_init_165 : decode cX10_init 165 = .ok (.putfield 71, 3) := dz_at dqX10_init_p1519 0 rfl
theorem dX10_init_168 : decode cX10_init 168 = .ok (.aload_n 0, 1) := dz_at dqX10_init_p1519 1 rfl
theorem dX10_init_169 : decode cX10_init 169 = .ok (.bipush 8, 2) := dz_at dqX10_init_p1519 2 rfl
theorem dX10_init_171 : decode cX10_init 171 = .ok (.newarray .int, 2) := by decide +kernel
set_option maxRecDepth 20000 in
theorem dqX10_init_p1520 : dz_rn 173 (cX10_init.data.toList.drop 173) [(3, 3), (0, 4), (2, 0)] = some [(173, .putfield 74, 3), (176, .aload_n 0, 1), (177, .bipush 8, 2)] := by decide +kernel
theorem dX10_init_173 : decode cX10_init 173 = .ok (.putfield 74, 3) := dz_at dqX10_init_p1520 0 rfl
theorem dX10_init_176 : decode cX10_init 176 = .ok (.aload_n 0, 1) := dz_at dqX10_init_p1520 1 rfl
theorem dX10_init_177 : decode cX10_init 177 = .ok (.bipush 8, 2) := dz_at dqX10_init_p1520 2 rfl
theorem dX10_init_179 : decode cX10_init 179 = .ok (.newarray .int, 2) := by decide +kernel
set_option maxRecDepth 20000 in
theorem dqX10_init_p1521 : dz_rn 181 (cX10_init.data.toList.drop 181) [(3, 3), (0, 4), (0, 16)] = some [(181, .putfield 77, 3), (184, .aload_n 0, 1), (185, .iconst 4, 1)] := by decide +kernel
theorem dX10_init_181 : decode cX10_init 181 = .ok (.putfield 77, 3) := dz_at dqX10_init_p1521 0 rfl
theorem dX10_init_184 : decode cX10_init 184 = .ok (.aload_n 0, 1) := dz_at dqX10_init_p1521 1 rfl
theorem dX10_init_185 : decode cX10_init 185 = .ok (.iconst 4, 1) := dz_at dqX10_init_p1521 2 rfl
theorem dX10_init_186 : decode cX10_init 186 = .ok (.newarray .int, 2) := by decide +kernel
set_option maxRecDepth 20000 in
theorem dqX10_init_p1522 : dz_rn 188 (cX10_init.data.toList.drop 188) [(3, 3), (0, 4), (2, 0)] = some [(188, .putfield 80, 3), (191, .aload_n 0, 1), (192, .bipush 48, 2)] := by decide +kernel
theorem dX10_init_188 : decode cX10_init 188 = .ok (.putfield 80, 3) := dz_at dqX10_init_p1522 0 rfl
theorem dX10_init_191 : decode cX10_init 191 = .ok (.aload_n 0, 1) := dz_at dqX10_init_p1522 1 rfl
theorem dX10_init_192 : decode cX10_init 192 = .ok (.bipush 48, 2) := dz_at dqX10_init_p1522 2 rfl
theorem dX10_init_194 : decode cX10_init 194 = .ok (.newarray .int, 2) := by decide +kernel
set_option maxRecDepth 20000 in
theorem dqX10_init_p1523 : dz_rn 196 (cX10_init.data.toList.drop 196) [(3, 3), (0, 4), (2, 0)] = some [(196, .putfield 83, 3), (199, .aload_n 0, 1), (200, .bipush 48, 2)] := by decide +kernel
theorem dX10_init_196 : decode cX10_init 196 = .ok (.putfield 83, 3) := dz_at dqX10_init_p1523 0 rfl
theorem dX10_init_199 : decode cX10_init 199 = .ok (.aload_n 0, 1) := dz_at dqX10_init_p1523 1 rfl
theorem dX10_init_200 : decode cX10_init 200 = .ok (.bipush 48, 2) := dz_at dqX10_init_p1523 2 rfl
theorem dX10_init_202 : decode cX10_init 202 = .ok (.newarray .boolean, 2) := by decide +kernel
set_option maxRecDepth 20000 in
theorem dqX10_init_p1524 : dz_rn 204 (cX10_init.data.toList.drop 204) [(3, 3), (0, 4), (2, 0)] = some [(204, .putfield 86, 3), (207, .aload_n 0, 1), (208, .bipush 100, 2)] := by decide +kernel
theorem dX10_init_204 : decode cX10_init 204 = .ok (.putfield 86, 3) := dz_at dqX10_init_p1524 0 rfl
theorem dX10_init_207 : decode cX10_init 207 = .ok (.aload_n 0, 1) := dz_at dqX10_init_p1524 1 rfl
theorem dX10_init_208 : decode cX10_init 208 = .ok (.bipush 100, 2) := dz_at dqX10_init_p1524 2 rfl
theorem dX10_init_210 : decode cX10_init 210 = .ok (.newarray .int, 2) := by decide +kernel
set_option maxRecDepth 20000 in
theorem dqX10_init_p1525 : dz_rn 212 (cX10_init.data.toList.drop 212) [(3, 3), (0, 8), (0, 19), (0, 1), (2, 0), (4, 4), (0, 4), (3, 0), (0, 1), (0, 17), (0, 22), (5, 0), (4, 0), (0, 8)] = some [(212, .putfield 90, 3), (215, .iconst 0, 1), (216, .istore_n 1, 1), (217, .iload_n 1, 1), (218, .bipush 11, 2), (220, .if_icmp .ge 16, 3), (223, .aload_n 0, 1), (224, .getfield 29, 3), (227, .iload_n 1, 1), (228, .iconst 5, 1), (229, .iastore, 1), (230, .iinc 1 1, 3), (233, .goto (-16), 3), (236, .iconst 0, 1)] := by decide +kernel
theorem dX10_init_212 : decode cX10_init 212 = .ok (.putfield 90, 3) := dz_at dqX10_init_p1525 0 rfl
theorem dX10_init_215 : decode cX10_init 215 = .ok (.iconst 0, 1) := dz_at dqX10_init_p1525 1 rfl
theorem dX10_init_216 : decode cX10_init 216 = .ok (.istore_n 1, 1) := dz_at dqX10_init_p1525 2 rfl
theorem dX10_init_217 : decode cX10_init 217 = .ok (.iload_n 1, 1) := dz_at dqX10_init_p1525 3 rfl
theorem dX10_init_218 : decode cX10_init 218 = .ok (.bipush 11, 2) := dz_at dqX10_init_p1525 4 rfl
theorem dX10_init_220 : decode cX10_init 220 = .ok (.if_icmp .ge 16, 3) := dz_at dqX10_init_p1525 5 rfl
theorem dX10_init_223 : decode cX10_init 223 = .ok (.aload_n 0, 1) := dz_at dqX10_init_p1525 6 rfl
theorem dX10_init_224 : decode cX10_init 224 = .ok (.getfield 29, 3) := dz_at dqX10_init_p1525 7 rfl
theorem dX10_init_227 : decode cX10_init 227 = .ok (.iload_n 1, 1) := dz_at dqX10_init_p1525 8 rfl
theorem dX10_init_228 : decode cX10_init 228 = .ok (.iconst 5, 1) := dz_at dqX10_init_p1525 9 rfl
theorem dX10_init_229 : decode cX10_init 229 = .ok (.iastore, 1) := dz_at dqX10_init_p1525 10 rfl
theorem dX10_init_230 : decode cX10_init 230 = .ok (.iinc 1 1, 3) := dz_at dqX10_init_p1525 11 rfl
theorem dX10_init_233 : decode cX10_init 233 = .ok (.goto (-16), 3) := dz_at dqX10_init_p1525 12 rfl
theorem dX10_init_236 : decode cX10_init 236 = .ok (.iconst 0, 1) := dz_at dqX10_init_p1525 13 rfl
set_option maxRecDepth 20000 in
theorem dqX10_init_p1526 : dz_rn 237 (cX10_init.data.toList.drop 237) [(0, 19), (0, 1), (2, 0), (4, 4), (0, 4), (3, 0), (0, 1), (0, 13), (0, 22), (0, 4), (3, 0), (0, 1), (0, 13), (0, 22)] = some [(237, .istore_n 1, 1), (238, .iload_n 1, 1), (239, .bipush 48, 2), (241, .if_icmp .ge 30, 3), (244, .aload_n 0, 1), (245, .getfield 32, 3), (248, .iload_n 1, 1), (249, .iconst (-1), 1), (250, .iastore, 1), (251, .aload_n 0, 1), (252, .getfield 38, 3), (255, .iload_n 1, 1), (256, .iconst (-1), 1), (257, .iastore, 1)] := by decide +kernel
theorem dX10_init_237 : decode cX10_init 237 = .ok (.istore_n 1, 1) := dz_at dqX10_init_p1526 0 rfl
theorem dX10_init_238 : decode cX10_init 238 = .ok (.iload_n 1, 1) := dz_at dqX10_init_p1526 1 rfl
theorem dX10_init_239 : decode cX10_init 239 = .ok (.bipush 48, 2) := dz_at dqX10_init_p1526 2 rfl
theorem dX10_init_241 : decode cX10_init 241 = .ok (.if_icmp .ge 30, 3) := dz_at dqX10_init_p1526 3 rfl
theorem dX10_init_244 : decode cX10_init 244 = .ok (.aload_n 0, 1) := dz_at dqX10_init_p1526 4 rfl
theorem dX10_init_245 : decode cX10_init 245 = .ok (.getfield 32, 3) := dz_at dqX10_init_p1526 5 rfl
theorem dX10_init_248 : decode cX10_init 248 = .ok (.iload_n 1, 1) := dz_at dqX10_init_p1526 6 rfl
theorem dX10_init_249 : decode cX10_init 249 = .ok (.iconst (-1), 1) := dz_at dqX10_init_p1526 7 rfl
theorem dX10_init_250 : decode cX10_init 250 = .ok (.iastore, 1) := dz_at dqX10_init_p1526 8 rfl
theorem dX10_init_251 : decode cX10_init 251 = .ok (.aload_n 0, 1) := dz_at dqX10_init_p1526 9 rfl
theorem dX10_init_252 : decode cX10_init 252 = .ok (.getfield 38, 3) := dz_at dqX10_init_p1526 10 rfl
theorem dX10_init_255 : decode cX10_init 255 = .ok (.iload_n 1, 1) := dz_at dqX10_init_p1526 11 rfl
theorem dX10_init_256 : decode cX10_init 256 = .ok (.iconst (-1), 1) := dz_at dqX10_init_p1526 12 rfl
theorem dX10_init_257 : decode cX10_init 257 = .ok (.iastore, 1) := dz_at dqX10_init_p1526 13 rfl
set_option maxRecDepth 20000 in
theorem dqX10_init_p1527 : dz_rn 258 (cX10_init.data.toList.drop 258) [(0, 4), (3, 0), (0, 1), (0, 13), (0, 22), (5, 0), (4, 0), (0, 8), (0, 19), (0, 1), (2, 0), (4, 4), (0, 4), (3, 0)] = some [(258, .aload_n 0, 1), (259, .getfield 44, 3), (262, .iload_n 1, 1), (263, .iconst (-1), 1), (264, .iastore, 1), (265, .iinc 1 1, 3), (268, .goto (-30), 3), (271, .iconst 0, 1), (272, .istore_n 1, 1), (273, .iload_n 1, 1), (274, .bipush 8, 2), (276, .if_icmp .ge 16, 3), (279, .aload_n 0, 1), (280, .getfield 47, 3)] := by decide +kernel
theorem dX10_init_258 : decode cX10_init 258 = .ok (.aload_n 0, 1) := dz_at dqX10_init_p1527 0 rfl
theorem dX10_init_259 : decode cX10_init 259 = .ok (.getfield 44, 3) := dz_at dqX10_init_p1527 1 rfl
theorem dX10_init_262 : decode cX10_init 262 = .ok (.iload_n 1, 1) := dz_at dqX10_init_p1527 2 rfl
theorem dX10_init_263 : decode cX10_init 263 = .ok (.iconst (-1), 1) := dz_at dqX10_init_p1527 3 rfl
theorem dX10_init_264 : decode cX10_init 264 = .ok (.iastore, 1) := dz_at dqX10_init_p1527 4 rfl
theorem dX10_init_265 : decode cX10_init 265 = .ok (.iinc 1 1, 3) := dz_at dqX10_init_p1527 5 rfl
theorem dX10_init_268 : decode cX10_init 268 = .ok (.goto (-30), 3) := dz_at dqX10_init_p1527 6 rfl
theorem dX10_init_271 : decode cX10_init 271 = .ok (.iconst 0, 1) := dz_at dqX10_init_p1527 7 rfl
theorem dX10_init_272 : decode cX10_init 272 = .ok (.istore_n 1, 1) := dz_at dqX10_init_p1527 8 rfl
theorem dX10_init_273 : decode cX10_init 273 = .ok (.iload_n 1, 1) := dz_at dqX10_init_p1527 9 rfl
theorem dX10_init_274 : decode cX10_init 274 = .ok (.bipush 8, 2) := dz_at dqX10_init_p1527 10 rfl
theorem dX10_init_276 : decode cX10_init 276 = .ok (.if_icmp .ge 16, 3) := dz_at dqX10_init_p1527 11 rfl
theorem dX10_init_279 : decode cX10_init 279 = .ok (.aload_n 0, 1) := dz_at dqX10_init_p1527 12 rfl
theorem dX10_init_280 : decode cX10_init 280 = .ok (.getfield 47, 3) := dz_at dqX10_init_p1527 13 rfl
set_option maxRecDepth 20000 in
theorem dqX10_init_p1528 : dz_rn 283 (cX10_init.data.toList.drop 283) [(0, 1), (0, 13), (0, 22), (5, 0), (4, 0), (0, 25)] = some [(283, .iload_n 1, 1), (284, .iconst (-1), 1), (285, .iastore, 1), (286, .iinc 1 1, 3), (289, .goto (-16), 3), (292, .return_, 1)] := by decide +kernel
theorem dX10_init_283 : decode cX10_init 283 = .ok (.iload_n 1, 1) := dz_at dqX10_init_p1528 0 rfl
theorem dX10_init_284 : decode cX10_init 284 = .ok (.iconst (-1), 1) := dz_at dqX10_init_p1528 1 rfl
theorem dX10_init_285 : decode cX10_init 285 = .ok (.iastore, 1) := dz_at dqX10_init_p1528 2 rfl
theorem dX10_init_286 : decode cX10_init 286 = .ok (.iinc 1 1, 3) := dz_at dqX10_init_p1528 3 rfl
theorem dX10_init_289 : decode cX10_init 289 = .ok (.goto (-16), 3) := dz_at dqX10_init_p1528 4 rfl
theorem dX10_init_292 : decode cX10_init 292 = .ok (.return_, 1) := dz_at dqX10_init_p1528 5 rfl
set_option maxRecDepth 20000 in
theorem ggX10_right_X10_isCorner : GoodIn wsX10_right wsX10_isCorner := goodIn_r _ [9, 10, 11, 8, 12] rfl (by decide +kernel)
set_option maxRecDepth 20000 in
theorem gX10_right_X10_isCorner : GoodIn wsX10_right (va_wsS RX10 118 yX10_isCorner wsX10_isCorner) := goodIn_app (goodIn_of _ (by decide +kernel)) ggX10_right_X10_isCorner
set_option maxRecDepth 20000 in
theorem ggX10_right_X10_in : GoodIn wsX10_right wsX10_in := goodIn_r _ [12] rfl (by decide +kernel)
set_option maxRecDepth 20000 in
theorem gX10_right_X10_in : GoodIn wsX10_right (va_wsS RX10 93 yX10_in wsX10_in) := goodIn_app (goodIn_of _ (by decide +kernel)) ggX10_right_X10_in
set_option maxRecDepth 20000 in
theorem ggX10_right_X10_likeness : GoodIn wsX10_right wsX10_likeness := goodIn_r _ [16, 17, 18, 19, 20, 21, 22, 23, 24, 25, 26, 27, 28, 29, 30, 31, 32, 33, 34, 35, 36, 37, 38, 39, 40, 41, 42, 43, 44, 45, 46, 47, 48, 49, 50, 51, 52, 53, 54, 55, 56] rfl (by decide +kernel)
set_option maxRecDepth 20000 in
theorem gX10_right_X10_likeness : GoodIn wsX10_right (wsV RX10 115 RX10 yX10_likeness wsX10_likeness) := goodIn_app (goodIn_of _ (by decide +kernel)) ggX10_right_X10_likeness
set_option maxRecDepth 20000 in
theorem dqX10_right_p150 : dz_rn 0 (cX10_right.data.toList.drop 0) [(0, 1), (3, 2), (4, 8), (2, 0), (0, 12), (0, 2), (0, 8), (0, 9), (3, 2), (4, 8), (2, 0), (0, 12), (0, 4), (3, 0)] = some [(0, .iload_n 1, 1), (1, .invokestatic 118, 3), (4, .ifCond .ne 6, 3), (7, .bipush (-2), 2), (9, .ireturn, 1), (10, .iload_n 2, 1), (11, .iconst 0, 1), (12, .iconst 1, 1), (13, .invokestatic 93, 3), (16, .ifCond .ne 6, 3), (19, .bipush (-3), 2), (21, .ireturn, 1), (22, .aload_n 0, 1), (23, .getfield 32, 3)] := by decide +kernel
theorem dX10_right_0 : decode cX10_right 0 = .ok (.iload_n 1, 1) := dz_at dqX10_right_p150 0 rfl
theorem dX10_right_1 : decode cX10_right 1 = .ok (.invokestatic 118, 3) := dz_at dqX10_right_p150 1 rfl
theorem dX10_right_4 : decode cX10_right 4 = .ok (.ifCond .ne 6, 3) := dz_at dqX10_right_p150 2 rfl
theorem dX10_right_7 : decode cX10_right 7 = .ok (.bipush (-2), 2) := dz_at dqX10_right_p150 3 rfl
theorem dX10_right_9 : decode cX10_right 9 = .ok (.ireturn, 1) := dz_at dqX10_right_p150 4 rfl
theorem dX10_right_10 : decode cX10_right 10 = .ok (.iload_n 2, 1) := dz_at dqX10_right_p150 5 rfl
theorem dX10_right_11 : decode cX10_right 11 = .ok (.iconst 0, 1) := dz_at dqX10_right_p150 6 rfl
theorem dX10_right_12 : decode cX10_right 12 = .ok (.iconst 1, 1) := dz_at dqX10_right_p150 7 rfl
theorem dX10_right_13 : decode cX10_right 13 = .ok (.invokestatic 93, 3) := dz_at dqX10_right_p150 8 rfl
theorem dX10_right_16 : decode cX10_right 16 = .ok (.ifCond .ne 6, 3) := dz_at dqX10_right_p150 9 rfl
theorem dX10_right_19 : decode cX10_right 19 = .ok (.bipush (-3), 2) := dz_at dqX10_right_p150 10 rfl
theorem dX10_right_21 : decode cX10_right 21 = .ok (.ireturn, 1) := dz_at dqX10_right_p150 11 rfl
theorem dX10_right_22 : decode cX10_right 22 = .ok (.aload_n 0, 1) := dz_at dqX10_right_p150 12 rfl
theorem dX10_right_23 : decode cX10_right 23 = .ok (.getfield 32, 3) := dz_at dqX10_right_p150 13 rfl
set_option maxRecDepth 20000 in
theorem dqX10_right_p151 : dz_rn 26 (cX10_right.data.toList.drop 26) [(0, 1), (0, 10), (0, 13), (4, 2), (2, 0), (0, 12), (0, 4), (3, 0), (0, 1), (0, 10), (0, 4), (3, 0), (0, 1), (0, 10)] = some [(26, .iload_n 1, 1), (27, .iaload, 1), (28, .iconst (-1), 1), (29, .if_icmp .ne 6, 3), (32, .bipush (-4), 2), (34, .ireturn, 1), (35, .aload_n 0, 1), (36, .getfield 35, 3), (39, .iload_n 1, 1), (40, .iaload, 1), (41, .aload_n 0, 1), (42, .getfield 38, 3), (45, .iload_n 1, 1), (46, .iaload, 1)] := by decide +kernel
theorem dX10_right_26 : decode cX10_right 26 = .ok (.iload_n 1, 1) := dz_at dqX10_right_p151 0 rfl
theorem dX10_right_27 : decode cX10_right 27 = .ok (.iaload, 1) := dz_at dqX10_right_p151 1 rfl
theorem dX10_right_28 : decode cX10_right 28 = .ok (.iconst (-1), 1) := dz_at dqX10_right_p151 2 rfl
theorem dX10_right_29 : decode cX10_right 29 = .ok (.if_icmp .ne 6, 3) := dz_at dqX10_right_p151 3 rfl
theorem dX10_right_32 : decode cX10_right 32 = .ok (.bipush (-4), 2) := dz_at dqX10_right_p151 4 rfl
theorem dX10_right_34 : decode cX10_right 34 = .ok (.ireturn, 1) := dz_at dqX10_right_p151 5 rfl
theorem dX10_right_35 : decode cX10_right 35 = .ok (.aload_n 0, 1) := dz_at dqX10_right_p151 6 rfl
theorem dX10_right_36 : decode cX10_right 36 = .ok (.getfield 35, 3) := dz_at dqX10_right_p151 7 rfl
theorem dX10_right_39 : decode cX10_right 39 = .ok (.iload_n 1, 1) := dz_at dqX10_right_p151 8 rfl
theorem dX10_right_40 : decode cX10_right 40 = .ok (.iaload, 1) := dz_at dqX10_right_p151 9 rfl
theorem dX10_right_41 : decode cX10_right 41 = .ok (.aload_n 0, 1) := dz_at dqX10_right_p151 10 rfl
theorem dX10_right_42 : decode cX10_right 42 = .ok (.getfield 38, 3) := dz_at dqX10_right_p151 11 rfl
theorem dX10_right_45 : decode cX10_right 45 = .ok (.iload_n 1, 1) := dz_at dqX10_right_p151 12 rfl
theorem dX10_right_46 : decode cX10_right 46 = .ok (.iaload, 1) := dz_at dqX10_right_p151 13 rfl
set_option maxRecDepth 20000 in
theorem dqX10_right_p152 : dz_rn 47 (cX10_right.data.toList.drop 47) [(0, 13), (4, 2), (0, 8), (4, 0), (0, 4), (3, 0), (0, 1), (0, 10), (0, 11), (0, 21), (0, 1), (2, 0), (0, 27), (2, 0)] = some [(47, .iconst (-1), 1), (48, .if_icmp .ne 7, 3), (51, .iconst 0, 1), (52, .goto 9, 3), (55, .aload_n 0, 1), (56, .getfield 41, 3), (59, .iload_n 1, 1), (60, .iaload, 1), (61, .iadd, 1), (62, .istore_n 3, 1), (63, .iload_n 1, 1), (64, .bipush 6, 2), (66, .idiv, 1), (67, .bipush 6, 2)] := by decide +kernel
theorem dX10_right_47 : decode cX10_right 47 = .ok (.iconst (-1), 1) := dz_at dqX10_right_p152 0 rfl
theorem dX10_right_48 : decode cX10_right 48 = .ok (.if_icmp .ne 7, 3) := dz_at dqX10_right_p152 1 rfl
theorem dX10_right_51 : decode cX10_right 51 = .ok (.iconst 0, 1) := dz_at dqX10_right_p152 2 rfl
theorem dX10_right_52 : decode cX10_right 52 = .ok (.goto 9, 3) := dz_at dqX10_right_p152 3 rfl
theorem dX10_right_55 : decode cX10_right 55 = .ok (.aload_n 0, 1) := dz_at dqX10_right_p152 4 rfl
theorem dX10_right_56 : decode cX10_right 56 = .ok (.getfield 41, 3) := dz_at dqX10_right_p152 5 rfl
theorem dX10_right_59 : decode cX10_right 59 = .ok (.iload_n 1, 1) := dz_at dqX10_right_p152 6 rfl
theorem dX10_right_60 : decode cX10_right 60 = .ok (.iaload, 1) := dz_at dqX10_right_p152 7 rfl
theorem dX10_right_61 : decode cX10_right 61 = .ok (.iadd, 1) := dz_at dqX10_right_p152 8 rfl
theorem dX10_right_62 : decode cX10_right 62 = .ok (.istore_n 3, 1) := dz_at dqX10_right_p152 9 rfl
theorem dX10_right_63 : decode cX10_right 63 = .ok (.iload_n 1, 1) := dz_at dqX10_right_p152 10 rfl
theorem dX10_right_64 : decode cX10_right 64 = .ok (.bipush 6, 2) := dz_at dqX10_right_p152 11 rfl
theorem dX10_right_66 : decode cX10_right 66 = .ok (.idiv, 1) := dz_at dqX10_right_p152 12 rfl
theorem dX10_right_67 : decode cX10_right 67 = .ok (.bipush 6, 2) := dz_at dqX10_right_p152 13 rfl
set_option maxRecDepth 20000 in
theorem dqX10_right_p153 : dz_rn 69 (cX10_right.data.toList.drop 69) [(0, 23), (1, 1), (1, 0), (0, 1), (2, 0), (0, 27), (2, 0), (0, 23), (2, 0), (0, 11), (4, 4), (0, 3), (1, 0), (0, 1)] = some [(69, .imul, 1), (70, .istore 4, 2), (72, .iload 4, 2), (74, .iload_n 1, 1), (75, .bipush 6, 2), (77, .idiv, 1), (78, .bipush 6, 2), (80, .imul, 1), (81, .bipush 6, 2), (83, .iadd, 1), (84, .if_icmp .ge 64, 3), (87, .iload_n 3, 1), (88, .iload 4, 2), (90, .iload_n 1, 1)] := by decide +kernel
theorem dX10_right_69 : decode cX10_right 69 = .ok (.imul, 1) := dz_at dqX10_right_p153 0 rfl
theorem dX10_right_70 : decode cX10_right 70 = .ok (.istore 4, 2) := dz_at dqX10_right_p153 1 rfl
theorem dX10_right_72 : decode cX10_right 72 = .ok (.iload 4, 2) := dz_at dqX10_right_p153 2 rfl
theorem dX10_right_74 : decode cX10_right 74 = .ok (.iload_n 1, 1) := dz_at dqX10_right_p153 3 rfl
theorem dX10_right_75 : decode cX10_right 75 = .ok (.bipush 6, 2) := dz_at dqX10_right_p153 4 rfl
theorem dX10_right_77 : decode cX10_right 77 = .ok (.idiv, 1) := dz_at dqX10_right_p153 5 rfl
theorem dX10_right_78 : decode cX10_right 78 = .ok (.bipush 6, 2) := dz_at dqX10_right_p153 6 rfl
theorem dX10_right_80 : decode cX10_right 80 = .ok (.imul, 1) := dz_at dqX10_right_p153 7 rfl
theorem dX10_right_81 : decode cX10_right 81 = .ok (.bipush 6, 2) := dz_at dqX10_right_p153 8 rfl
theorem dX10_right_83 : decode cX10_right 83 = .ok (.iadd, 1) := dz_at dqX10_right_p153 9 rfl
theorem dX10_right_84 : decode cX10_right 84 = .ok (.if_icmp .ge 64, 3) := dz_at dqX10_right_p153 10 rfl
theorem dX10_right_87 : decode cX10_right 87 = .ok (.iload_n 3, 1) := dz_at dqX10_right_p153 11 rfl
theorem dX10_right_88 : decode cX10_right 88 = .ok (.iload 4, 2) := dz_at dqX10_right_p153 12 rfl
theorem dX10_right_90 : decode cX10_right 90 = .ok (.iload_n 1, 1) := dz_at dqX10_right_p153 13 rfl
set_option maxRecDepth 20000 in
theorem dqX10_right_p154 : dz_rn 91 (cX10_right.data.toList.drop 91) [(4, 1), (0, 4), (3, 0), (1, 0), (0, 10), (0, 13), (4, 1), (0, 4), (0, 4), (3, 0), (1, 0), (0, 10), (0, 4), (3, 0)] = some [(91, .if_icmp .eq 48, 3), (94, .aload_n 0, 1), (95, .getfield 32, 3), (98, .iload 4, 2), (100, .iaload, 1), (101, .iconst (-1), 1), (102, .if_icmp .eq 37, 3), (105, .aload_n 0, 1), (106, .aload_n 0, 1), (107, .getfield 32, 3), (110, .iload 4, 2), (112, .iaload, 1), (113, .aload_n 0, 1), (114, .getfield 32, 3)] := by decide +kernel
theorem dX10_right_91 : decode cX10_right 91 = .ok (.if_icmp .eq 48, 3) := dz_at dqX10_right_p154 0 rfl
theorem dX10_right_94 : decode cX10_right 94 = .ok (.aload_n 0, 1) := dz_at dqX10_right_p154 1 rfl
theorem dX10_right_95 : decode cX10_right 95 = .ok (.getfield 32, 3) := dz_at dqX10_right_p154 2 rfl
theorem dX10_right_98 : decode cX10_right 98 = .ok (.iload 4, 2) := dz_at dqX10_right_p154 3 rfl
theorem dX10_right_100 : decode cX10_right 100 = .ok (.iaload, 1) := dz_at dqX10_right_p154 4 rfl
theorem dX10_right_101 : decode cX10_right 101 = .ok (.iconst (-1), 1) := dz_at dqX10_right_p154 5 rfl
theorem dX10_right_102 : decode cX10_right 102 = .ok (.if_icmp .eq 37, 3) := dz_at dqX10_right_p154 6 rfl
theorem dX10_right_105 : decode cX10_right 105 = .ok (.aload_n 0, 1) := dz_at dqX10_right_p154 7 rfl
theorem dX10_right_106 : decode cX10_right 106 = .ok (.aload_n 0, 1) := dz_at dqX10_right_p154 8 rfl
theorem dX10_right_107 : decode cX10_right 107 = .ok (.getfield 32, 3) := dz_at dqX10_right_p154 9 rfl
theorem dX10_right_110 : decode cX10_right 110 = .ok (.iload 4, 2) := dz_at dqX10_right_p154 10 rfl
theorem dX10_right_112 : decode cX10_right 112 = .ok (.iaload, 1) := dz_at dqX10_right_p154 11 rfl
theorem dX10_right_113 : decode cX10_right 113 = .ok (.aload_n 0, 1) := dz_at dqX10_right_p154 12 rfl
theorem dX10_right_114 : decode cX10_right 114 = .ok (.getfield 32, 3) := dz_at dqX10_right_p154 13 rfl
set_option maxRecDepth 20000 in
theorem dqX10_right_p155 : dz_rn 117 (cX10_right.data.toList.drop 117) [(0, 1), (0, 10), (3, 1), (0, 4), (3, 0), (4, 3), (0, 4), (3, 0), (1, 0), (0, 10), (4, 0), (0, 8), (0, 11), (0, 21)] = some [(117, .iload_n 1, 1), (118, .iaload, 1), (119, .invokevirtual 115, 3), (122, .aload_n 0, 1), (123, .getfield 22, 3), (126, .if_icmp .lt 13, 3), (129, .aload_n 0, 1), (130, .getfield 35, 3), (133, .iload 4, 2), (135, .iaload, 1), (136, .goto 4, 3), (139, .iconst 0, 1), (140, .iadd, 1), (141, .istore_n 3, 1)] := by decide +kernel
theorem dX10_right_117 : decode cX10_right 117 = .ok (.iload_n 1, 1) := dz_at dqX10_right_p155 0 rfl
theorem dX10_right_118 : decode cX10_right 118 = .ok (.iaload, 1) := dz_at dqX10_right_p155 1 rfl
theorem dX10_right_119 : decode cX10_right 119 = .ok (.invokevirtual 115, 3) := dz_at dqX10_right_p155 2 rfl
theorem dX10_right_122 : decode cX10_right 122 = .ok (.aload_n 0, 1) := dz_at dqX10_right_p155 3 rfl
theorem dX10_right_123 : decode cX10_right 123 = .ok (.getfield 22, 3) := dz_at dqX10_right_p155 4 rfl
theorem dX10_right_126 : decode cX10_right 126 = .ok (.if_icmp .lt 13, 3) := dz_at dqX10_right_p155 5 rfl
theorem dX10_right_129 : decode cX10_right 129 = .ok (.aload_n 0, 1) := dz_at dqX10_right_p155 6 rfl
theorem dX10_right_130 : decode cX10_right 130 = .ok (.getfield 35, 3) := dz_at dqX10_right_p155 7 rfl
theorem dX10_right_133 : decode cX10_right 133 = .ok (.iload 4, 2) := dz_at dqX10_right_p155 8 rfl
theorem dX10_right_135 : decode cX10_right 135 = .ok (.iaload, 1) := dz_at dqX10_right_p155 9 rfl
theorem dX10_right_136 : decode cX10_right 136 = .ok (.goto 4, 3) := dz_at dqX10_right_p155 10 rfl
theorem dX10_right_139 : decode cX10_right 139 = .ok (.iconst 0, 1) := dz_at dqX10_right_p155 11 rfl
theorem dX10_right_140 : decode cX10_right 140 = .ok (.iadd, 1) := dz_at dqX10_right_p155 12 rfl
theorem dX10_right_141 : decode cX10_right 141 = .ok (.istore_n 3, 1) := dz_at dqX10_right_p155 13 rfl
set_option maxRecDepth 20000 in
theorem dqX10_right_p156 : dz_rn 142 (cX10_right.data.toList.drop 142) [(5, 0), (4, 0), (0, 3), (4, 8), (2, 0), (0, 12), (0, 3), (1, 1), (0, 4), (3, 0), (0, 1), (0, 10), (1, 1), (1, 0)] = some [(142, .iinc 4 1, 3), (145, .goto (-73), 3), (148, .iload_n 3, 1), (149, .ifCond .ne 6, 3), (152, .bipush (-4), 2), (154, .ireturn, 1), (155, .iload_n 3, 1), (156, .istore 4, 2), (158, .aload_n 0, 1), (159, .getfield 35, 3), (162, .iload_n 1, 1), (163, .iaload, 1), (164, .istore 5, 2), (166, .iload 5, 2)] := by decide +kernel
theorem dX10_right_142 : decode cX10_right 142 = .ok (.iinc 4 1, 3) := dz_at dqX10_right_p156 0 rfl
theorem dX10_right_145 : decode cX10_right 145 = .ok (.goto (-73), 3) := dz_at dqX10_right_p156 1 rfl
theorem dX10_right_148 : decode cX10_right 148 = .ok (.iload_n 3, 1) := dz_at dqX10_right_p156 2 rfl
theorem dX10_right_149 : decode cX10_right 149 = .ok (.ifCond .ne 6, 3) := dz_at dqX10_right_p156 3 rfl
theorem dX10_right_152 : decode cX10_right 152 = .ok (.bipush (-4), 2) := dz_at dqX10_right_p156 4 rfl
theorem dX10_right_154 : decode cX10_right 154 = .ok (.ireturn, 1) := dz_at dqX10_right_p156 5 rfl
theorem dX10_right_155 : decode cX10_right 155 = .ok (.iload_n 3, 1) := dz_at dqX10_right_p156 6 rfl
theorem dX10_right_156 : decode cX10_right 156 = .ok (.istore 4, 2) := dz_at dqX10_right_p156 7 rfl
theorem dX10_right_158 : decode cX10_right 158 = .ok (.aload_n 0, 1) := dz_at dqX10_right_p156 8 rfl
theorem dX10_right_159 : decode cX10_right 159 = .ok (.getfield 35, 3) := dz_at dqX10_right_p156 9 rfl
theorem dX10_right_162 : decode cX10_right 162 = .ok (.iload_n 1, 1) := dz_at dqX10_right_p156 10 rfl
theorem dX10_right_163 : decode cX10_right 163 = .ok (.iaload, 1) := dz_at dqX10_right_p156 11 rfl
theorem dX10_right_164 : decode cX10_right 164 = .ok (.istore 5, 2) := dz_at dqX10_right_p156 12 rfl
theorem dX10_right_166 : decode cX10_right 166 = .ok (.iload 5, 2) := dz_at dqX10_right_p156 13 rfl
set_option maxRecDepth 20000 in
theorem dqX10_right_p157 : dz_rn 168 (cX10_right.data.toList.drop 168) [(4, 7), (1, 0), (1, 0), (0, 30), (1, 1), (1, 0), (1, 1), (1, 0), (1, 1), (4, 0), (0, 2), (4, 8), (0, 4), (3, 0)] = some [(168, .ifCond .eq 21, 3), (171, .iload 4, 2), (173, .iload 5, 2), (175, .irem, 1), (176, .istore 6, 2), (178, .iload 5, 2), (180, .istore 4, 2), (182, .iload 6, 2), (184, .istore 5, 2), (186, .goto (-20), 3), (189, .iload_n 2, 1), (190, .ifCond .ne 15, 3), (193, .aload_n 0, 1), (194, .getfield 35, 3)] := by decide +kernel
theorem dX10_right_168 : decode cX10_right 168 = .ok (.ifCond .eq 21, 3) := dz_at dqX10_right_p157 0 rfl
theorem dX10_right_171 : decode cX10_right 171 = .ok (.iload 4, 2) := dz_at dqX10_right_p157 1 rfl
theorem dX10_right_173 : decode cX10_right 173 = .ok (.iload 5, 2) := dz_at dqX10_right_p157 2 rfl
theorem dX10_right_175 : decode cX10_right 175 = .ok (.irem, 1) := dz_at dqX10_right_p157 3 rfl
theorem dX10_right_176 : decode cX10_right 176 = .ok (.istore 6, 2) := dz_at dqX10_right_p157 4 rfl
theorem dX10_right_178 : decode cX10_right 178 = .ok (.iload 5, 2) := dz_at dqX10_right_p157 5 rfl
theorem dX10_right_180 : decode cX10_right 180 = .ok (.istore 4, 2) := dz_at dqX10_right_p157 6 rfl
theorem dX10_right_182 : decode cX10_right 182 = .ok (.iload 6, 2) := dz_at dqX10_right_p157 7 rfl
theorem dX10_right_184 : decode cX10_right 184 = .ok (.istore 5, 2) := dz_at dqX10_right_p157 8 rfl
theorem dX10_right_186 : decode cX10_right 186 = .ok (.goto (-20), 3) := dz_at dqX10_right_p157 9 rfl
theorem dX10_right_189 : decode cX10_right 189 = .ok (.iload_n 2, 1) := dz_at dqX10_right_p157 10 rfl
theorem dX10_right_190 : decode cX10_right 190 = .ok (.ifCond .ne 15, 3) := dz_at dqX10_right_p157 11 rfl
theorem dX10_right_193 : decode cX10_right 193 = .ok (.aload_n 0, 1) := dz_at dqX10_right_p157 12 rfl
theorem dX10_right_194 : decode cX10_right 194 = .ok (.getfield 35, 3) := dz_at dqX10_right_p157 13 rfl
set_option maxRecDepth 20000 in
theorem dqX10_right_p158 : dz_rn 197 (cX10_right.data.toList.drop 197) [(0, 1), (0, 10), (1, 0), (0, 27), (4, 0), (0, 3), (1, 0), (0, 27), (0, 12)] = some [(197, .iload_n 1, 1), (198, .iaload, 1), (199, .iload 4, 2), (201, .idiv, 1), (202, .goto 7, 3), (205, .iload_n 3, 1), (206, .iload 4, 2), (208, .idiv, 1), (209, .ireturn, 1)] := by decide +kernel
theorem dX10_right_197 : decode cX10_right 197 = .ok (.iload_n 1, 1) := dz_at dqX10_right_p158 0 rfl
theorem dX10_right_198 : decode cX10_right 198 = .ok (.iaload, 1) := dz_at dqX10_right_p158 1 rfl
theorem dX10_right_199 : decode cX10_right 199 = .ok (.iload 4, 2) := dz_at dqX10_right_p158 2 rfl
theorem dX10_right_201 : decode cX10_right 201 = .ok (.idiv, 1) := dz_at dqX10_right_p158 3 rfl
theorem dX10_right_202 : decode cX10_right 202 = .ok (.goto 7, 3) := dz_at dqX10_right_p158 4 rfl
theorem dX10_right_205 : decode cX10_right 205 = .ok (.iload_n 3, 1) := dz_at dqX10_right_p158 5 rfl
theorem dX10_right_206 : decode cX10_right 206 = .ok (.iload 4, 2) := dz_at dqX10_right_p158 6 rfl
theorem dX10_right_208 : decode cX10_right 208 = .ok (.idiv, 1) := dz_at dqX10_right_p158 7 rfl
theorem dX10_right_209 : decode cX10_right 209 = .ok (.ireturn, 1) := dz_at dqX10_right_p158 8 rfl
set_option maxRecDepth 20000 in
theorem ggX10_causes_X10_isCorner : GoodIn wsX10_causes wsX10_isCorner := goodIn_r _ [7, 8, 9, 6, 10] rfl (by decide +kernel)
set_option maxRecDepth 20000 in
theorem gX10_causes_X10_isCorner : GoodIn wsX10_causes (va_wsS RX10 118 yX10_isCorner wsX10_isCorner) := goodIn_app (goodIn_of _ (by decide +kernel)) ggX10_causes_X10_isCorner
set_option maxRecDepth 20000 in
theorem ggX10_causes_X10_isThing : GoodIn wsX10_causes wsX10_isThing := goodIn_r _ [13, 8, 9, 6, 10] rfl (by decide +kernel)
set_option maxRecDepth 20000 in
theorem gX10_causes_X10_isThing : GoodIn wsX10_causes (va_wsS RX10 112 yX10_isThing wsX10_isThing) := goodIn_app (goodIn_of _ (by decide +kernel)) ggX10_causes_X10_isThing
set_option maxRecDepth 20000 in
theorem ggX10_causes_X10_cornerOf : GoodIn wsX10_causes wsX10_cornerOf := goodIn_r _ [17, 1, 30, 31, 32, 33, 34, 35, 36, 37, 38, 39, 40, 41, 42, 43, 44, 45, 46, 47, 48, 49, 50, 51, 52, 53, 54, 55, 56, 57, 58, 59, 60, 61, 62, 63, 64, 65, 66, 67, 68] rfl (by decide +kernel)
set_option maxRecDepth 20000 in
theorem gX10_causes_X10_cornerOf : GoodIn wsX10_causes (wsV RX10 121 RX10 yX10_cornerOf wsX10_cornerOf) := goodIn_app (goodIn_of _ (by decide +kernel)) ggX10_causes_X10_cornerOf
set_option maxRecDepth 20000 in
theorem ggX10_causes_X10_likeness : GoodIn wsX10_causes wsX10_likeness := goodIn_r _ [21, 22, 30, 31, 32, 33, 34, 35, 36, 37, 38, 39, 40, 41, 42, 43, 44, 45, 46, 47, 48, 49, 50, 51, 52, 53, 54, 55, 56, 57, 58, 59, 60, 61, 62, 63, 64, 65, 66, 67, 68] rfl (by decide +kernel)
set_option maxRecDepth 20000 in
theorem gX10_causes_X10_likeness : GoodIn wsX10_causes (wsV RX10 115 RX10 yX10_likeness wsX10_likeness) := goodIn_app (goodIn_of _ (by decide +kernel)) ggX10_causes_X10_likeness
set_option maxRecDepth 20000 in
theorem ggX10_causes_X10_areJoined : GoodIn wsX10_causes wsX10_areJoined := goodIn_r _ [26, 27, 28, 29, 30, 31, 32, 33, 34, 35, 36, 37, 38, 39, 40, 41, 42, 43, 44, 45, 46, 47, 48, 49, 50, 51, 52, 53, 54, 55, 56, 57, 58, 59, 60, 61, 62, 63, 64, 65, 66, 67, 68] rfl (by decide +kernel)
set_option maxRecDepth 20000 in
theorem gX10_causes_X10_areJoined : GoodIn wsX10_causes (wsV RX10 104 RX10 yX10_areJoined wsX10_areJoined) := goodIn_app (goodIn_of _ (by decide +kernel)) ggX10_causes_X10_areJoined
set_option maxRecDepth 20000 in
theorem dqX10_causes_p150 : dz_rn 0 (cX10_causes.data.toList.drop 0) [(0, 1), (3, 2), (4, 7), (0, 2), (3, 2), (4, 8), (2, 0), (0, 12), (0, 4), (3, 0), (0, 1), (0, 10), (0, 13), (4, 1)] = some [(0, .iload_n 1, 1), (1, .invokestatic 118, 3), (4, .ifCond .eq 10, 3), (7, .iload_n 2, 1), (8, .invokestatic 112, 3), (11, .ifCond .ne 6, 3), (14, .bipush (-2), 2), (16, .ireturn, 1), (17, .aload_n 0, 1), (18, .getfield 32, 3), (21, .iload_n 1, 1), (22, .iaload, 1), (23, .iconst (-1), 1), (24, .if_icmp .eq 13, 3)] := by decide +kernel
theorem dX10_causes_0 : decode cX10_causes 0 = .ok (.iload_n 1, 1) := dz_at dqX10_causes_p150 0 rfl
theorem dX10_causes_1 : decode cX10_causes 1 = .ok (.invokestatic 118, 3) := dz_at dqX10_causes_p150 1 rfl
theorem dX10_causes_4 : decode cX10_causes 4 = .ok (.ifCond .eq 10, 3) := dz_at dqX10_causes_p150 2 rfl
theorem dX10_causes_7 : decode cX10_causes 7 = .ok (.iload_n 2, 1) := dz_at dqX10_causes_p150 3 rfl
theorem dX10_causes_8 : decode cX10_causes 8 = .ok (.invokestatic 112, 3) := dz_at dqX10_causes_p150 4 rfl
theorem dX10_causes_11 : decode cX10_causes 11 = .ok (.ifCond .ne 6, 3) := dz_at dqX10_causes_p150 5 rfl
theorem dX10_causes_14 : decode cX10_causes 14 = .ok (.bipush (-2), 2) := dz_at dqX10_causes_p150 6 rfl
theorem dX10_causes_16 : decode cX10_causes 16 = .ok (.ireturn, 1) := dz_at dqX10_causes_p150 7 rfl
theorem dX10_causes_17 : decode cX10_causes 17 = .ok (.aload_n 0, 1) := dz_at dqX10_causes_p150 8 rfl
theorem dX10_causes_18 : decode cX10_causes 18 = .ok (.getfield 32, 3) := dz_at dqX10_causes_p150 9 rfl
theorem dX10_causes_21 : decode cX10_causes 21 = .ok (.iload_n 1, 1) := dz_at dqX10_causes_p150 10 rfl
theorem dX10_causes_22 : decode cX10_causes 22 = .ok (.iaload, 1) := dz_at dqX10_causes_p150 11 rfl
theorem dX10_causes_23 : decode cX10_causes 23 = .ok (.iconst (-1), 1) := dz_at dqX10_causes_p150 12 rfl
theorem dX10_causes_24 : decode cX10_causes 24 = .ok (.if_icmp .eq 13, 3) := dz_at dqX10_causes_p150 13 rfl
set_option maxRecDepth 20000 in
theorem dqX10_causes_p151 : dz_rn 27 (cX10_causes.data.toList.drop 27) [(0, 4), (3, 0), (0, 1), (0, 10), (0, 2), (4, 2), (2, 0), (0, 12), (0, 4), (0, 2), (3, 1), (0, 21), (0, 4), (0, 2)] = some [(27, .aload_n 0, 1), (28, .getfield 32, 3), (31, .iload_n 1, 1), (32, .iaload, 1), (33, .iload_n 2, 1), (34, .if_icmp .ne 6, 3), (37, .bipush (-4), 2), (39, .ireturn, 1), (40, .aload_n 0, 1), (41, .iload_n 2, 1), (42, .invokevirtual 121, 3), (45, .istore_n 3, 1), (46, .aload_n 0, 1), (47, .iload_n 2, 1)] := by decide +kernel
theorem dX10_causes_27 : decode cX10_causes 27 = .ok (.aload_n 0, 1) := dz_at dqX10_causes_p151 0 rfl
theorem dX10_causes_28 : decode cX10_causes 28 = .ok (.getfield 32, 3) := dz_at dqX10_causes_p151 1 rfl
theorem dX10_causes_31 : decode cX10_causes 31 = .ok (.iload_n 1, 1) := dz_at dqX10_causes_p151 2 rfl
theorem dX10_causes_32 : decode cX10_causes 32 = .ok (.iaload, 1) := dz_at dqX10_causes_p151 3 rfl
theorem dX10_causes_33 : decode cX10_causes 33 = .ok (.iload_n 2, 1) := dz_at dqX10_causes_p151 4 rfl
theorem dX10_causes_34 : decode cX10_causes 34 = .ok (.if_icmp .ne 6, 3) := dz_at dqX10_causes_p151 5 rfl
theorem dX10_causes_37 : decode cX10_causes 37 = .ok (.bipush (-4), 2) := dz_at dqX10_causes_p151 6 rfl
theorem dX10_causes_39 : decode cX10_causes 39 = .ok (.ireturn, 1) := dz_at dqX10_causes_p151 7 rfl
theorem dX10_causes_40 : decode cX10_causes 40 = .ok (.aload_n 0, 1) := dz_at dqX10_causes_p151 8 rfl
theorem dX10_causes_41 : decode cX10_causes 41 = .ok (.iload_n 2, 1) := dz_at dqX10_causes_p151 9 rfl
theorem dX10_causes_42 : decode cX10_causes 42 = .ok (.invokevirtual 121, 3) := dz_at dqX10_causes_p151 10 rfl
theorem dX10_causes_45 : decode cX10_causes 45 = .ok (.istore_n 3, 1) := dz_at dqX10_causes_p151 11 rfl
theorem dX10_causes_46 : decode cX10_causes 46 = .ok (.aload_n 0, 1) := dz_at dqX10_causes_p151 12 rfl
theorem dX10_causes_47 : decode cX10_causes 47 = .ok (.iload_n 2, 1) := dz_at dqX10_causes_p151 13 rfl
set_option maxRecDepth 20000 in
theorem dqX10_causes_p152 : dz_rn 48 (cX10_causes.data.toList.drop 48) [(0, 4), (3, 0), (0, 1), (0, 10), (3, 1), (0, 4), (3, 0), (4, 3), (0, 9), (4, 0), (0, 8), (1, 1), (1, 0), (0, 4)] = some [(48, .aload_n 0, 1), (49, .getfield 32, 3), (52, .iload_n 1, 1), (53, .iaload, 1), (54, .invokevirtual 115, 3), (57, .aload_n 0, 1), (58, .getfield 22, 3), (61, .if_icmp .lt 7, 3), (64, .iconst 1, 1), (65, .goto 4, 3), (68, .iconst 0, 1), (69, .istore 4, 2), (71, .iload 4, 2), (73, .aload_n 0, 1)] := by decide +kernel
theorem dX10_causes_48 : decode cX10_causes 48 = .ok (.aload_n 0, 1) := dz_at dqX10_causes_p152 0 rfl
theorem dX10_causes_49 : decode cX10_causes 49 = .ok (.getfield 32, 3) := dz_at dqX10_causes_p152 1 rfl
theorem dX10_causes_52 : decode cX10_causes 52 = .ok (.iload_n 1, 1) := dz_at dqX10_causes_p152 2 rfl
theorem dX10_causes_53 : decode cX10_causes 53 = .ok (.iaload, 1) := dz_at dqX10_causes_p152 3 rfl
theorem dX10_causes_54 : decode cX10_causes 54 = .ok (.invokevirtual 115, 3) := dz_at dqX10_causes_p152 4 rfl
theorem dX10_causes_57 : decode cX10_causes 57 = .ok (.aload_n 0, 1) := dz_at dqX10_causes_p152 5 rfl
theorem dX10_causes_58 : decode cX10_causes 58 = .ok (.getfield 22, 3) := dz_at dqX10_causes_p152 6 rfl
theorem dX10_causes_61 : decode cX10_causes 61 = .ok (.if_icmp .lt 7, 3) := dz_at dqX10_causes_p152 7 rfl
theorem dX10_causes_64 : decode cX10_causes 64 = .ok (.iconst 1, 1) := dz_at dqX10_causes_p152 8 rfl
theorem dX10_causes_65 : decode cX10_causes 65 = .ok (.goto 4, 3) := dz_at dqX10_causes_p152 9 rfl
theorem dX10_causes_68 : decode cX10_causes 68 = .ok (.iconst 0, 1) := dz_at dqX10_causes_p152 10 rfl
theorem dX10_causes_69 : decode cX10_causes 69 = .ok (.istore 4, 2) := dz_at dqX10_causes_p152 11 rfl
theorem dX10_causes_71 : decode cX10_causes 71 = .ok (.iload 4, 2) := dz_at dqX10_causes_p152 12 rfl
theorem dX10_causes_73 : decode cX10_causes 73 = .ok (.aload_n 0, 1) := dz_at dqX10_causes_p152 13 rfl
set_option maxRecDepth 20000 in
theorem dqX10_causes_p153 : dz_rn 74 (cX10_causes.data.toList.drop 74) [(3, 0), (0, 1), (0, 10), (0, 2), (4, 2), (0, 14), (4, 0), (0, 8), (0, 11), (1, 1), (1, 0), (0, 3), (0, 13), (4, 1)] = some [(74, .getfield 38, 3), (77, .iload_n 1, 1), (78, .iaload, 1), (79, .iload_n 2, 1), (80, .if_icmp .ne 7, 3), (83, .iconst 2, 1), (84, .goto 4, 3), (87, .iconst 0, 1), (88, .iadd, 1), (89, .istore 4, 2), (91, .iload 4, 2), (93, .iload_n 3, 1), (94, .iconst (-1), 1), (95, .if_icmp .eq 33, 3)] := by decide +kernel
theorem dX10_causes_74 : decode cX10_causes 74 = .ok (.getfield 38, 3) := dz_at dqX10_causes_p153 0 rfl
theorem dX10_causes_77 : decode cX10_causes 77 = .ok (.iload_n 1, 1) := dz_at dqX10_causes_p153 1 rfl
theorem dX10_causes_78 : decode cX10_causes 78 = .ok (.iaload, 1) := dz_at dqX10_causes_p153 2 rfl
theorem dX10_causes_79 : decode cX10_causes 79 = .ok (.iload_n 2, 1) := dz_at dqX10_causes_p153 3 rfl
theorem dX10_causes_80 : decode cX10_causes 80 = .ok (.if_icmp .ne 7, 3) := dz_at dqX10_causes_p153 4 rfl
theorem dX10_causes_83 : decode cX10_causes 83 = .ok (.iconst 2, 1) := dz_at dqX10_causes_p153 5 rfl
theorem dX10_causes_84 : decode cX10_causes 84 = .ok (.goto 4, 3) := dz_at dqX10_causes_p153 6 rfl
theorem dX10_causes_87 : decode cX10_causes 87 = .ok (.iconst 0, 1) := dz_at dqX10_causes_p153 7 rfl
theorem dX10_causes_88 : decode cX10_causes 88 = .ok (.iadd, 1) := dz_at dqX10_causes_p153 8 rfl
theorem dX10_causes_89 : decode cX10_causes 89 = .ok (.istore 4, 2) := dz_at dqX10_causes_p153 9 rfl
theorem dX10_causes_91 : decode cX10_causes 91 = .ok (.iload 4, 2) := dz_at dqX10_causes_p153 10 rfl
theorem dX10_causes_93 : decode cX10_causes 93 = .ok (.iload_n 3, 1) := dz_at dqX10_causes_p153 11 rfl
theorem dX10_causes_94 : decode cX10_causes 94 = .ok (.iconst (-1), 1) := dz_at dqX10_causes_p153 12 rfl
theorem dX10_causes_95 : decode cX10_causes 95 = .ok (.if_icmp .eq 33, 3) := dz_at dqX10_causes_p153 13 rfl
set_option maxRecDepth 20000 in
theorem dqX10_causes_p154 : dz_rn 98 (cX10_causes.data.toList.drop 98) [(0, 3), (2, 0), (0, 30), (0, 1), (2, 0), (0, 30), (4, 2), (0, 4), (0, 3), (2, 0), (0, 27), (0, 1), (2, 0), (0, 27)] = some [(98, .iload_n 3, 1), (99, .bipush 6, 2), (101, .irem, 1), (102, .iload_n 1, 1), (103, .bipush 6, 2), (105, .irem, 1), (106, .if_icmp .ne 22, 3), (109, .aload_n 0, 1), (110, .iload_n 3, 1), (111, .bipush 6, 2), (113, .idiv, 1), (114, .iload_n 1, 1), (115, .bipush 6, 2), (117, .idiv, 1)] := by decide +kernel
theorem dX10_causes_98 : decode cX10_causes 98 = .ok (.iload_n 3, 1) := dz_at dqX10_causes_p154 0 rfl
theorem dX10_causes_99 : decode cX10_causes 99 = .ok (.bipush 6, 2) := dz_at dqX10_causes_p154 1 rfl
theorem dX10_causes_101 : decode cX10_causes 101 = .ok (.irem, 1) := dz_at dqX10_causes_p154 2 rfl
theorem dX10_causes_102 : decode cX10_causes 102 = .ok (.iload_n 1, 1) := dz_at dqX10_causes_p154 3 rfl
theorem dX10_causes_103 : decode cX10_causes 103 = .ok (.bipush 6, 2) := dz_at dqX10_causes_p154 4 rfl
theorem dX10_causes_105 : decode cX10_causes 105 = .ok (.irem, 1) := dz_at dqX10_causes_p154 5 rfl
theorem dX10_causes_106 : decode cX10_causes 106 = .ok (.if_icmp .ne 22, 3) := dz_at dqX10_causes_p154 6 rfl
theorem dX10_causes_109 : decode cX10_causes 109 = .ok (.aload_n 0, 1) := dz_at dqX10_causes_p154 7 rfl
theorem dX10_causes_110 : decode cX10_causes 110 = .ok (.iload_n 3, 1) := dz_at dqX10_causes_p154 8 rfl
theorem dX10_causes_111 : decode cX10_causes 111 = .ok (.bipush 6, 2) := dz_at dqX10_causes_p154 9 rfl
theorem dX10_causes_113 : decode cX10_causes 113 = .ok (.idiv, 1) := dz_at dqX10_causes_p154 10 rfl
theorem dX10_causes_114 : decode cX10_causes 114 = .ok (.iload_n 1, 1) := dz_at dqX10_causes_p154 11 rfl
theorem dX10_causes_115 : decode cX10_causes 115 = .ok (.bipush 6, 2) := dz_at dqX10_causes_p154 12 rfl
theorem dX10_causes_117 : decode cX10_causes 117 = .ok (.idiv, 1) := dz_at dqX10_causes_p154 13 rfl
set_option maxRecDepth 20000 in
theorem dqX10_causes_p155 : dz_rn 118 (cX10_causes.data.toList.drop 118) [(3, 1), (4, 7), (0, 16), (4, 0), (0, 8), (0, 11), (0, 12)] = some [(118, .invokevirtual 104, 3), (121, .ifCond .eq 7, 3), (124, .iconst 4, 1), (125, .goto 4, 3), (128, .iconst 0, 1), (129, .iadd, 1), (130, .ireturn, 1)] := by decide +kernel
theorem dX10_causes_118 : decode cX10_causes 118 = .ok (.invokevirtual 104, 3) := dz_at dqX10_causes_p155 0 rfl
theorem dX10_causes_121 : decode cX10_causes 121 = .ok (.ifCond .eq 7, 3) := dz_at dqX10_causes_p155 1 rfl
theorem dX10_causes_124 : decode cX10_causes 124 = .ok (.iconst 4, 1) := dz_at dqX10_causes_p155 2 rfl
theorem dX10_causes_125 : decode cX10_causes 125 = .ok (.goto 4, 3) := dz_at dqX10_causes_p155 3 rfl
theorem dX10_causes_128 : decode cX10_causes 128 = .ok (.iconst 0, 1) := dz_at dqX10_causes_p155 4 rfl
theorem dX10_causes_129 : decode cX10_causes 129 = .ok (.iadd, 1) := dz_at dqX10_causes_p155 5 rfl
theorem dX10_causes_130 : decode cX10_causes 130 = .ok (.ireturn, 1) := dz_at dqX10_causes_p155 6 rfl
set_option maxRecDepth 20000 in
theorem ggX10_asked_X10_isThing : GoodIn wsX10_asked wsX10_isThing := goodIn_r _ [4, 5, 6, 3, 7] rfl (by decide +kernel)
set_option maxRecDepth 20000 in
theorem gX10_asked_X10_isThing : GoodIn wsX10_asked (va_wsS RX10 112 yX10_isThing wsX10_isThing) := goodIn_app (goodIn_of _ (by decide +kernel)) ggX10_asked_X10_isThing
set_option maxRecDepth 20000 in
theorem ggX10_asked_X10_isRoom : GoodIn wsX10_asked wsX10_isRoom := goodIn_r _ [10, 5, 6, 3, 7] rfl (by decide +kernel)
set_option maxRecDepth 20000 in
theorem gX10_asked_X10_isRoom : GoodIn wsX10_asked (va_wsS RX10 100 yX10_isRoom wsX10_isRoom) := goodIn_app (goodIn_of _ (by decide +kernel)) ggX10_asked_X10_isRoom
set_option maxRecDepth 20000 in
theorem ggX10_asked_X10_cornerOf : GoodIn wsX10_asked wsX10_cornerOf := goodIn_r _ [14, 15, 24, 25, 26, 27, 28, 29, 30, 31, 32, 33, 34, 35, 36, 37, 38, 39, 40, 41, 42, 43, 44, 45, 46, 47, 48, 49, 50, 51, 52, 53, 54, 55, 56, 57, 58, 59, 60, 61, 62] rfl (by decide +kernel)
set_option maxRecDepth 20000 in
theorem gX10_asked_X10_cornerOf : GoodIn wsX10_asked (wsV RX10 121 RX10 yX10_cornerOf wsX10_cornerOf) := goodIn_app (goodIn_of _ (by decide +kernel)) ggX10_asked_X10_cornerOf
set_option maxRecDepth 20000 in
theorem ggX10_asked_X10_doorsTo : GoodIn wsX10_asked wsX10_doorsTo := goodIn_r _ [19, 20, 21, 22, 23, 24, 25, 26, 27, 28, 29, 30, 31, 32, 33, 34, 35, 36, 37, 38, 39, 40, 41, 42, 43, 44, 45, 46, 47, 48, 49, 50, 51, 52, 53, 54, 55, 56, 57, 58, 59, 60, 61, 62] rfl (by decide +kernel)
set_option maxRecDepth 20000 in
theorem gX10_asked_X10_doorsTo : GoodIn wsX10_asked (wsV RX10 108 RX10 yX10_doorsTo wsX10_doorsTo) := goodIn_app (goodIn_of _ (by decide +kernel)) ggX10_asked_X10_doorsTo
set_option maxRecDepth 20000 in
theorem dqX10_asked_p150 : dz_rn 0 (cX10_asked.data.toList.drop 0) [(0, 1), (3, 2), (4, 7), (0, 2), (3, 2), (4, 8), (2, 0), (0, 12), (0, 4), (0, 1), (3, 1), (0, 21), (0, 3), (0, 13)] = some [(0, .iload_n 1, 1), (1, .invokestatic 112, 3), (4, .ifCond .eq 10, 3), (7, .iload_n 2, 1), (8, .invokestatic 100, 3), (11, .ifCond .ne 6, 3), (14, .bipush (-2), 2), (16, .ireturn, 1), (17, .aload_n 0, 1), (18, .iload_n 1, 1), (19, .invokevirtual 121, 3), (22, .istore_n 3, 1), (23, .iload_n 3, 1), (24, .iconst (-1), 1)] := by decide +kernel
theorem dX10_asked_0 : decode cX10_asked 0 = .ok (.iload_n 1, 1) := dz_at dqX10_asked_p150 0 rfl
theorem dX10_asked_1 : decode cX10_asked 1 = .ok (.invokestatic 112, 3) := dz_at dqX10_asked_p150 1 rfl
theorem dX10_asked_4 : decode cX10_asked 4 = .ok (.ifCond .eq 10, 3) := dz_at dqX10_asked_p150 2 rfl
theorem dX10_asked_7 : decode cX10_asked 7 = .ok (.iload_n 2, 1) := dz_at dqX10_asked_p150 3 rfl
theorem dX10_asked_8 : decode cX10_asked 8 = .ok (.invokestatic 100, 3) := dz_at dqX10_asked_p150 4 rfl
theorem dX10_asked_11 : decode cX10_asked 11 = .ok (.ifCond .ne 6, 3) := dz_at dqX10_asked_p150 5 rfl
theorem dX10_asked_14 : decode cX10_asked 14 = .ok (.bipush (-2), 2) := dz_at dqX10_asked_p150 6 rfl
theorem dX10_asked_16 : decode cX10_asked 16 = .ok (.ireturn, 1) := dz_at dqX10_asked_p150 7 rfl
theorem dX10_asked_17 : decode cX10_asked 17 = .ok (.aload_n 0, 1) := dz_at dqX10_asked_p150 8 rfl
theorem dX10_asked_18 : decode cX10_asked 18 = .ok (.iload_n 1, 1) := dz_at dqX10_asked_p150 9 rfl
theorem dX10_asked_19 : decode cX10_asked 19 = .ok (.invokevirtual 121, 3) := dz_at dqX10_asked_p150 10 rfl
theorem dX10_asked_22 : decode cX10_asked 22 = .ok (.istore_n 3, 1) := dz_at dqX10_asked_p150 11 rfl
theorem dX10_asked_23 : decode cX10_asked 23 = .ok (.iload_n 3, 1) := dz_at dqX10_asked_p150 12 rfl
theorem dX10_asked_24 : decode cX10_asked 24 = .ok (.iconst (-1), 1) := dz_at dqX10_asked_p150 13 rfl
set_option maxRecDepth 20000 in
theorem dqX10_asked_p151 : dz_rn 25 (cX10_asked.data.toList.drop 25) [(4, 2), (0, 13), (4, 0), (0, 4), (0, 2), (0, 3), (2, 0), (0, 27), (3, 1), (1, 1), (1, 0), (0, 13), (4, 2), (0, 13)] = some [(25, .if_icmp .ne 7, 3), (28, .iconst (-1), 1), (29, .goto 12, 3), (32, .aload_n 0, 1), (33, .iload_n 2, 1), (34, .iload_n 3, 1), (35, .bipush 6, 2), (37, .idiv, 1), (38, .invokevirtual 108, 3), (41, .istore 4, 2), (43, .iload 4, 2), (45, .iconst (-1), 1), (46, .if_icmp .ne 7, 3), (49, .iconst (-1), 1)] := by decide +kernel
theorem dX10_asked_25 : decode cX10_asked 25 = .ok (.if_icmp .ne 7, 3) := dz_at dqX10_asked_p151 0 rfl
theorem dX10_asked_28 : decode cX10_asked 28 = .ok (.iconst (-1), 1) := dz_at dqX10_asked_p151 1 rfl
theorem dX10_asked_29 : decode cX10_asked 29 = .ok (.goto 12, 3) := dz_at dqX10_asked_p151 2 rfl
theorem dX10_asked_32 : decode cX10_asked 32 = .ok (.aload_n 0, 1) := dz_at dqX10_asked_p151 3 rfl
theorem dX10_asked_33 : decode cX10_asked 33 = .ok (.iload_n 2, 1) := dz_at dqX10_asked_p151 4 rfl
theorem dX10_asked_34 : decode cX10_asked 34 = .ok (.iload_n 3, 1) := dz_at dqX10_asked_p151 5 rfl
theorem dX10_asked_35 : decode cX10_asked 35 = .ok (.bipush 6, 2) := dz_at dqX10_asked_p151 6 rfl
theorem dX10_asked_37 : decode cX10_asked 37 = .ok (.idiv, 1) := dz_at dqX10_asked_p151 7 rfl
theorem dX10_asked_38 : decode cX10_asked 38 = .ok (.invokevirtual 108, 3) := dz_at dqX10_asked_p151 8 rfl
theorem dX10_asked_41 : decode cX10_asked 41 = .ok (.istore 4, 2) := dz_at dqX10_asked_p151 9 rfl
theorem dX10_asked_43 : decode cX10_asked 43 = .ok (.iload 4, 2) := dz_at dqX10_asked_p151 10 rfl
theorem dX10_asked_45 : decode cX10_asked 45 = .ok (.iconst (-1), 1) := dz_at dqX10_asked_p151 11 rfl
theorem dX10_asked_46 : decode cX10_asked 46 = .ok (.if_icmp .ne 7, 3) := dz_at dqX10_asked_p151 12 rfl
theorem dX10_asked_49 : decode cX10_asked 49 = .ok (.iconst (-1), 1) := dz_at dqX10_asked_p151 13 rfl
set_option maxRecDepth 20000 in
theorem dqX10_asked_p152 : dz_rn 50 (cX10_asked.data.toList.drop 50) [(4, 0), (1, 0), (0, 3), (2, 0), (0, 30), (0, 11), (0, 9), (0, 11), (0, 12)] = some [(50, .goto 12, 3), (53, .iload 4, 2), (55, .iload_n 3, 1), (56, .bipush 6, 2), (58, .irem, 1), (59, .iadd, 1), (60, .iconst 1, 1), (61, .iadd, 1), (62, .ireturn, 1)] := by decide +kernel
theorem dX10_asked_50 : decode cX10_asked 50 = .ok (.goto 12, 3) := dz_at dqX10_asked_p152 0 rfl
theorem dX10_asked_53 : decode cX10_asked 53 = .ok (.iload 4, 2) := dz_at dqX10_asked_p152 1 rfl
theorem dX10_asked_55 : decode cX10_asked 55 = .ok (.iload_n 3, 1) := dz_at dqX10_asked_p152 2 rfl
theorem dX10_asked_56 : decode cX10_asked 56 = .ok (.bipush 6, 2) := dz_at dqX10_asked_p152 3 rfl
theorem dX10_asked_58 : decode cX10_asked 58 = .ok (.irem, 1) := dz_at dqX10_asked_p152 4 rfl
theorem dX10_asked_59 : decode cX10_asked 59 = .ok (.iadd, 1) := dz_at dqX10_asked_p152 5 rfl
theorem dX10_asked_60 : decode cX10_asked 60 = .ok (.iconst 1, 1) := dz_at dqX10_asked_p152 6 rfl
theorem dX10_asked_61 : decode cX10_asked 61 = .ok (.iadd, 1) := dz_at dqX10_asked_p152 7 rfl
theorem dX10_asked_62 : decode cX10_asked 62 = .ok (.ireturn, 1) := dz_at dqX10_asked_p152 8 rfl
set_option maxRecDepth 20000 in
theorem ggX10_beside_X10_isThing : GoodIn wsX10_beside wsX10_isThing := goodIn_r _ [5, 6, 7, 4, 8] rfl (by decide +kernel)
set_option maxRecDepth 20000 in
theorem gX10_beside_X10_isThing : GoodIn wsX10_beside (va_wsS RX10 112 yX10_isThing wsX10_isThing) := goodIn_app (goodIn_of _ (by decide +kernel)) ggX10_beside_X10_isThing
set_option maxRecDepth 20000 in
theorem ggX10_beside_X10_in : GoodIn wsX10_beside wsX10_in := goodIn_r _ [8] rfl (by decide +kernel)
set_option maxRecDepth 20000 in
theorem gX10_beside_X10_in : GoodIn wsX10_beside (va_wsS RX10 93 yX10_in wsX10_in) := goodIn_app (goodIn_of _ (by decide +kernel)) ggX10_beside_X10_in
set_option maxRecDepth 20000 in
theorem ggX10_beside_X10_cornerOf : GoodIn wsX10_beside wsX10_cornerOf := goodIn_r _ [12, 1, 13, 14, 15, 16, 17, 18, 19, 20, 21, 22, 23, 24, 25, 26, 27, 28, 29, 30, 31, 32, 33, 34, 35, 36, 37, 38, 39, 40, 41, 42, 43, 44, 45, 46, 47, 48, 49, 50, 51] rfl (by decide +kernel)
set_option maxRecDepth 20000 in
theorem gX10_beside_X10_cornerOf : GoodIn wsX10_beside (wsV RX10 121 RX10 yX10_cornerOf wsX10_cornerOf) := goodIn_app (goodIn_of _ (by decide +kernel)) ggX10_beside_X10_cornerOf
set_option maxRecDepth 20000 in
theorem dqX10_beside_p150 : dz_rn 0 (cX10_beside.data.toList.drop 0) [(0, 1), (3, 2), (4, 8), (2, 0), (0, 12), (0, 2), (0, 8), (0, 9), (3, 2), (4, 8), (2, 0), (0, 12), (0, 4), (0, 1)] = some [(0, .iload_n 1, 1), (1, .invokestatic 112, 3), (4, .ifCond .ne 6, 3), (7, .bipush (-2), 2), (9, .ireturn, 1), (10, .iload_n 2, 1), (11, .iconst 0, 1), (12, .iconst 1, 1), (13, .invokestatic 93, 3), (16, .ifCond .ne 6, 3), (19, .bipush (-3), 2), (21, .ireturn, 1), (22, .aload_n 0, 1), (23, .iload_n 1, 1)] := by decide +kernel
theorem dX10_beside_0 : decode cX10_beside 0 = .ok (.iload_n 1, 1) := dz_at dqX10_beside_p150 0 rfl
theorem dX10_beside_1 : decode cX10_beside 1 = .ok (.invokestatic 112, 3) := dz_at dqX10_beside_p150 1 rfl
theorem dX10_beside_4 : decode cX10_beside 4 = .ok (.ifCond .ne 6, 3) := dz_at dqX10_beside_p150 2 rfl
theorem dX10_beside_7 : decode cX10_beside 7 = .ok (.bipush (-2), 2) := dz_at dqX10_beside_p150 3 rfl
theorem dX10_beside_9 : decode cX10_beside 9 = .ok (.ireturn, 1) := dz_at dqX10_beside_p150 4 rfl
theorem dX10_beside_10 : decode cX10_beside 10 = .ok (.iload_n 2, 1) := dz_at dqX10_beside_p150 5 rfl
theorem dX10_beside_11 : decode cX10_beside 11 = .ok (.iconst 0, 1) := dz_at dqX10_beside_p150 6 rfl
theorem dX10_beside_12 : decode cX10_beside 12 = .ok (.iconst 1, 1) := dz_at dqX10_beside_p150 7 rfl
theorem dX10_beside_13 : decode cX10_beside 13 = .ok (.invokestatic 93, 3) := dz_at dqX10_beside_p150 8 rfl
theorem dX10_beside_16 : decode cX10_beside 16 = .ok (.ifCond .ne 6, 3) := dz_at dqX10_beside_p150 9 rfl
theorem dX10_beside_19 : decode cX10_beside 19 = .ok (.bipush (-3), 2) := dz_at dqX10_beside_p150 10 rfl
theorem dX10_beside_21 : decode cX10_beside 21 = .ok (.ireturn, 1) := dz_at dqX10_beside_p150 11 rfl
theorem dX10_beside_22 : decode cX10_beside 22 = .ok (.aload_n 0, 1) := dz_at dqX10_beside_p150 12 rfl
theorem dX10_beside_23 : decode cX10_beside 23 = .ok (.iload_n 1, 1) := dz_at dqX10_beside_p150 13 rfl
set_option maxRecDepth 20000 in
theorem dqX10_beside_p151 : dz_rn 24 (cX10_beside.data.toList.drop 24) [(3, 1), (0, 21), (0, 13), (1, 1), (0, 3), (0, 13), (4, 1), (0, 3), (0, 2), (4, 8), (0, 13), (4, 0), (0, 9), (0, 11)] = some [(24, .invokevirtual 121, 3), (27, .istore_n 3, 1), (28, .iconst (-1), 1), (29, .istore 4, 2), (31, .iload_n 3, 1), (32, .iconst (-1), 1), (33, .if_icmp .eq 75, 3), (36, .iload_n 3, 1), (37, .iload_n 2, 1), (38, .ifCond .ne 7, 3), (41, .iconst (-1), 1), (42, .goto 4, 3), (45, .iconst 1, 1), (46, .iadd, 1)] := by decide +kernel
theorem dX10_beside_24 : decode cX10_beside 24 = .ok (.invokevirtual 121, 3) := dz_at dqX10_beside_p151 0 rfl
theorem dX10_beside_27 : decode cX10_beside 27 = .ok (.istore_n 3, 1) := dz_at dqX10_beside_p151 1 rfl
theorem dX10_beside_28 : decode cX10_beside 28 = .ok (.iconst (-1), 1) := dz_at dqX10_beside_p151 2 rfl
theorem dX10_beside_29 : decode cX10_beside 29 = .ok (.istore 4, 2) := dz_at dqX10_beside_p151 3 rfl
theorem dX10_beside_31 : decode cX10_beside 31 = .ok (.iload_n 3, 1) := dz_at dqX10_beside_p151 4 rfl
theorem dX10_beside_32 : decode cX10_beside 32 = .ok (.iconst (-1), 1) := dz_at dqX10_beside_p151 5 rfl
theorem dX10_beside_33 : decode cX10_beside 33 = .ok (.if_icmp .eq 75, 3) := dz_at dqX10_beside_p151 6 rfl
theorem dX10_beside_36 : decode cX10_beside 36 = .ok (.iload_n 3, 1) := dz_at dqX10_beside_p151 7 rfl
theorem dX10_beside_37 : decode cX10_beside 37 = .ok (.iload_n 2, 1) := dz_at dqX10_beside_p151 8 rfl
theorem dX10_beside_38 : decode cX10_beside 38 = .ok (.ifCond .ne 7, 3) := dz_at dqX10_beside_p151 9 rfl
theorem dX10_beside_41 : decode cX10_beside 41 = .ok (.iconst (-1), 1) := dz_at dqX10_beside_p151 10 rfl
theorem dX10_beside_42 : decode cX10_beside 42 = .ok (.goto 4, 3) := dz_at dqX10_beside_p151 11 rfl
theorem dX10_beside_45 : decode cX10_beside 45 = .ok (.iconst 1, 1) := dz_at dqX10_beside_p151 12 rfl
theorem dX10_beside_46 : decode cX10_beside 46 = .ok (.iadd, 1) := dz_at dqX10_beside_p151 13 rfl
set_option maxRecDepth 20000 in
theorem dqX10_beside_p152 : dz_rn 47 (cX10_beside.data.toList.drop 47) [(1, 1), (1, 0), (0, 3), (2, 0), (0, 27), (2, 0), (0, 23), (4, 3), (1, 0), (0, 3), (2, 0), (0, 27), (2, 0), (0, 23)] = some [(47, .istore 5, 2), (49, .iload 5, 2), (51, .iload_n 3, 1), (52, .bipush 6, 2), (54, .idiv, 1), (55, .bipush 6, 2), (57, .imul, 1), (58, .if_icmp .lt 50, 3), (61, .iload 5, 2), (63, .iload_n 3, 1), (64, .bipush 6, 2), (66, .idiv, 1), (67, .bipush 6, 2), (69, .imul, 1)] := by decide +kernel
theorem dX10_beside_47 : decode cX10_beside 47 = .ok (.istore 5, 2) := dz_at dqX10_beside_p152 0 rfl
theorem dX10_beside_49 : decode cX10_beside 49 = .ok (.iload 5, 2) := dz_at dqX10_beside_p152 1 rfl
theorem dX10_beside_51 : decode cX10_beside 51 = .ok (.iload_n 3, 1) := dz_at dqX10_beside_p152 2 rfl
theorem dX10_beside_52 : decode cX10_beside 52 = .ok (.bipush 6, 2) := dz_at dqX10_beside_p152 3 rfl
theorem dX10_beside_54 : decode cX10_beside 54 = .ok (.idiv, 1) := dz_at dqX10_beside_p152 4 rfl
theorem dX10_beside_55 : decode cX10_beside 55 = .ok (.bipush 6, 2) := dz_at dqX10_beside_p152 5 rfl
theorem dX10_beside_57 : decode cX10_beside 57 = .ok (.imul, 1) := dz_at dqX10_beside_p152 6 rfl
theorem dX10_beside_58 : decode cX10_beside 58 = .ok (.if_icmp .lt 50, 3) := dz_at dqX10_beside_p152 7 rfl
theorem dX10_beside_61 : decode cX10_beside 61 = .ok (.iload 5, 2) := dz_at dqX10_beside_p152 8 rfl
theorem dX10_beside_63 : decode cX10_beside 63 = .ok (.iload_n 3, 1) := dz_at dqX10_beside_p152 9 rfl
theorem dX10_beside_64 : decode cX10_beside 64 = .ok (.bipush 6, 2) := dz_at dqX10_beside_p152 10 rfl
theorem dX10_beside_66 : decode cX10_beside 66 = .ok (.idiv, 1) := dz_at dqX10_beside_p152 11 rfl
theorem dX10_beside_67 : decode cX10_beside 67 = .ok (.bipush 6, 2) := dz_at dqX10_beside_p152 12 rfl
theorem dX10_beside_69 : decode cX10_beside 69 = .ok (.imul, 1) := dz_at dqX10_beside_p152 13 rfl
set_option maxRecDepth 20000 in
theorem dqX10_beside_p153 : dz_rn 70 (cX10_beside.data.toList.drop 70) [(2, 0), (0, 11), (4, 4), (1, 0), (0, 13), (4, 2), (0, 4), (3, 0), (1, 0), (0, 10), (1, 1), (1, 0), (0, 2), (4, 8)] = some [(70, .bipush 6, 2), (72, .iadd, 1), (73, .if_icmp .ge 35, 3), (76, .iload 4, 2), (78, .iconst (-1), 1), (79, .if_icmp .ne 29, 3), (82, .aload_n 0, 1), (83, .getfield 32, 3), (86, .iload 5, 2), (88, .iaload, 1), (89, .istore 4, 2), (91, .iload 5, 2), (93, .iload_n 2, 1), (94, .ifCond .ne 7, 3)] := by decide +kernel
theorem dX10_beside_70 : decode cX10_beside 70 = .ok (.bipush 6, 2) := dz_at dqX10_beside_p153 0 rfl
theorem dX10_beside_72 : decode cX10_beside 72 = .ok (.iadd, 1) := dz_at dqX10_beside_p153 1 rfl
theorem dX10_beside_73 : decode cX10_beside 73 = .ok (.if_icmp .ge 35, 3) := dz_at dqX10_beside_p153 2 rfl
theorem dX10_beside_76 : decode cX10_beside 76 = .ok (.iload 4, 2) := dz_at dqX10_beside_p153 3 rfl
theorem dX10_beside_78 : decode cX10_beside 78 = .ok (.iconst (-1), 1) := dz_at dqX10_beside_p153 4 rfl
theorem dX10_beside_79 : decode cX10_beside 79 = .ok (.if_icmp .ne 29, 3) := dz_at dqX10_beside_p153 5 rfl
theorem dX10_beside_82 : decode cX10_beside 82 = .ok (.aload_n 0, 1) := dz_at dqX10_beside_p153 6 rfl
theorem dX10_beside_83 : decode cX10_beside 83 = .ok (.getfield 32, 3) := dz_at dqX10_beside_p153 7 rfl
theorem dX10_beside_86 : decode cX10_beside 86 = .ok (.iload 5, 2) := dz_at dqX10_beside_p153 8 rfl
theorem dX10_beside_88 : decode cX10_beside 88 = .ok (.iaload, 1) := dz_at dqX10_beside_p153 9 rfl
theorem dX10_beside_89 : decode cX10_beside 89 = .ok (.istore 4, 2) := dz_at dqX10_beside_p153 10 rfl
theorem dX10_beside_91 : decode cX10_beside 91 = .ok (.iload 5, 2) := dz_at dqX10_beside_p153 11 rfl
theorem dX10_beside_93 : decode cX10_beside 93 = .ok (.iload_n 2, 1) := dz_at dqX10_beside_p153 12 rfl
theorem dX10_beside_94 : decode cX10_beside 94 = .ok (.ifCond .ne 7, 3) := dz_at dqX10_beside_p153 13 rfl
set_option maxRecDepth 20000 in
theorem dqX10_beside_p154 : dz_rn 97 (cX10_beside.data.toList.drop 97) [(0, 13), (4, 0), (0, 9), (0, 11), (1, 1), (4, 0), (1, 0), (0, 12)] = some [(97, .iconst (-1), 1), (98, .goto 4, 3), (101, .iconst 1, 1), (102, .iadd, 1), (103, .istore 5, 2), (105, .goto (-56), 3), (108, .iload 4, 2), (110, .ireturn, 1)] := by decide +kernel
theorem dX10_beside_97 : decode cX10_beside 97 = .ok (.iconst (-1), 1) := dz_at dqX10_beside_p154 0 rfl
theorem dX10_beside_98 : decode cX10_beside 98 = .ok (.goto 4, 3) := dz_at dqX10_beside_p154 1 rfl
theorem dX10_beside_101 : decode cX10_beside 101 = .ok (.iconst 1, 1) := dz_at dqX10_beside_p154 2 rfl
theorem dX10_beside_102 : decode cX10_beside 102 = .ok (.iadd, 1) := dz_at dqX10_beside_p154 3 rfl
theorem dX10_beside_103 : decode cX10_beside 103 = .ok (.istore 5, 2) := dz_at dqX10_beside_p154 4 rfl
theorem dX10_beside_105 : decode cX10_beside 105 = .ok (.goto (-56), 3) := dz_at dqX10_beside_p154 5 rfl
theorem dX10_beside_108 : decode cX10_beside 108 = .ok (.iload 4, 2) := dz_at dqX10_beside_p154 6 rfl
theorem dX10_beside_110 : decode cX10_beside 110 = .ok (.ireturn, 1) := dz_at dqX10_beside_p154 7 rfl
set_option maxRecDepth 20000 in
theorem ggX10_answer_X10_isPupil : GoodIn wsX10_answer wsX10_isPupil := goodIn_r _ [7, 8, 9, 6, 10] rfl (by decide +kernel)
set_option maxRecDepth 20000 in
theorem gX10_answer_X10_isPupil : GoodIn wsX10_answer (va_wsS RX10 254 yX10_isPupil wsX10_isPupil) := goodIn_app (goodIn_of _ (by decide +kernel)) ggX10_answer_X10_isPupil
set_option maxRecDepth 20000 in
theorem ggX10_answer_X10_in : GoodIn wsX10_answer wsX10_in := goodIn_r _ [10] rfl (by decide +kernel)
set_option maxRecDepth 20000 in
theorem gX10_answer_X10_in : GoodIn wsX10_answer (va_wsS RX10 93 yX10_in wsX10_in) := goodIn_app (goodIn_of _ (by decide +kernel)) ggX10_answer_X10_in
set_option maxRecDepth 20000 in
theorem dqX10_answer_p150 : dz_rn 0 (cX10_answer.data.toList.drop 0) [(0, 1), (3, 2), (4, 8), (2, 0), (0, 12), (0, 2), (0, 9), (2, 0), (3, 2), (4, 8), (2, 0), (0, 12), (0, 4), (3, 0)] = some [(0, .iload_n 1, 1), (1, .invokestatic 254, 3), (4, .ifCond .ne 6, 3), (7, .bipush (-2), 2), (9, .ireturn, 1), (10, .iload_n 2, 1), (11, .iconst 1, 1), (12, .bipush 60, 2), (14, .invokestatic 93, 3), (17, .ifCond .ne 6, 3), (20, .bipush (-3), 2), (22, .ireturn, 1), (23, .aload_n 0, 1), (24, .getfield 80, 3)] := by decide +kernel
theorem dX10_answer_0 : decode cX10_answer 0 = .ok (.iload_n 1, 1) := dz_at dqX10_answer_p150 0 rfl
theorem dX10_answer_1 : decode cX10_answer 1 = .ok (.invokestatic 254, 3) := dz_at dqX10_answer_p150 1 rfl
theorem dX10_answer_4 : decode cX10_answer 4 = .ok (.ifCond .ne 6, 3) := dz_at dqX10_answer_p150 2 rfl
theorem dX10_answer_7 : decode cX10_answer 7 = .ok (.bipush (-2), 2) := dz_at dqX10_answer_p150 3 rfl
theorem dX10_answer_9 : decode cX10_answer 9 = .ok (.ireturn, 1) := dz_at dqX10_answer_p150 4 rfl
theorem dX10_answer_10 : decode cX10_answer 10 = .ok (.iload_n 2, 1) := dz_at dqX10_answer_p150 5 rfl
theorem dX10_answer_11 : decode cX10_answer 11 = .ok (.iconst 1, 1) := dz_at dqX10_answer_p150 6 rfl
theorem dX10_answer_12 : decode cX10_answer 12 = .ok (.bipush 60, 2) := dz_at dqX10_answer_p150 7 rfl
theorem dX10_answer_14 : decode cX10_answer 14 = .ok (.invokestatic 93, 3) := dz_at dqX10_answer_p150 8 rfl
theorem dX10_answer_17 : decode cX10_answer 17 = .ok (.ifCond .ne 6, 3) := dz_at dqX10_answer_p150 9 rfl
theorem dX10_answer_20 : decode cX10_answer 20 = .ok (.bipush (-3), 2) := dz_at dqX10_answer_p150 10 rfl
theorem dX10_answer_22 : decode cX10_answer 22 = .ok (.ireturn, 1) := dz_at dqX10_answer_p150 11 rfl
theorem dX10_answer_23 : decode cX10_answer 23 = .ok (.aload_n 0, 1) := dz_at dqX10_answer_p150 12 rfl
theorem dX10_answer_24 : decode cX10_answer 24 = .ok (.getfield 80, 3) := dz_at dqX10_answer_p150 13 rfl
set_option maxRecDepth 20000 in
theorem dqX10_answer_p151 : dz_rn 27 (cX10_answer.data.toList.drop 27) [(0, 1), (0, 10), (2, 0), (4, 2), (2, 0), (0, 12), (0, 4), (3, 0), (2, 0), (0, 1), (0, 23), (0, 4), (3, 0), (0, 1)] = some [(27, .iload_n 1, 1), (28, .iaload, 1), (29, .bipush 12, 2), (31, .if_icmp .ne 6, 3), (34, .bipush (-5), 2), (36, .ireturn, 1), (37, .aload_n 0, 1), (38, .getfield 83, 3), (41, .bipush 12, 2), (43, .iload_n 1, 1), (44, .imul, 1), (45, .aload_n 0, 1), (46, .getfield 80, 3), (49, .iload_n 1, 1)] := by decide +kernel
theorem dX10_answer_27 : decode cX10_answer 27 = .ok (.iload_n 1, 1) := dz_at dqX10_answer_p151 0 rfl
theorem dX10_answer_28 : decode cX10_answer 28 = .ok (.iaload, 1) := dz_at dqX10_answer_p151 1 rfl
theorem dX10_answer_29 : decode cX10_answer 29 = .ok (.bipush 12, 2) := dz_at dqX10_answer_p151 2 rfl
theorem dX10_answer_31 : decode cX10_answer 31 = .ok (.if_icmp .ne 6, 3) := dz_at dqX10_answer_p151 3 rfl
theorem dX10_answer_34 : decode cX10_answer 34 = .ok (.bipush (-5), 2) := dz_at dqX10_answer_p151 4 rfl
theorem dX10_answer_36 : decode cX10_answer 36 = .ok (.ireturn, 1) := dz_at dqX10_answer_p151 5 rfl
theorem dX10_answer_37 : decode cX10_answer 37 = .ok (.aload_n 0, 1) := dz_at dqX10_answer_p151 6 rfl
theorem dX10_answer_38 : decode cX10_answer 38 = .ok (.getfield 83, 3) := dz_at dqX10_answer_p151 7 rfl
theorem dX10_answer_41 : decode cX10_answer 41 = .ok (.bipush 12, 2) := dz_at dqX10_answer_p151 8 rfl
theorem dX10_answer_43 : decode cX10_answer 43 = .ok (.iload_n 1, 1) := dz_at dqX10_answer_p151 9 rfl
theorem dX10_answer_44 : decode cX10_answer 44 = .ok (.imul, 1) := dz_at dqX10_answer_p151 10 rfl
theorem dX10_answer_45 : decode cX10_answer 45 = .ok (.aload_n 0, 1) := dz_at dqX10_answer_p151 11 rfl
theorem dX10_answer_46 : decode cX10_answer 46 = .ok (.getfield 80, 3) := dz_at dqX10_answer_p151 12 rfl
theorem dX10_answer_49 : decode cX10_answer 49 = .ok (.iload_n 1, 1) := dz_at dqX10_answer_p151 13 rfl
set_option maxRecDepth 20000 in
theorem dqX10_answer_p152 : dz_rn 50 (cX10_answer.data.toList.drop 50) [(0, 10), (0, 11), (0, 2), (0, 22), (0, 4), (3, 0), (2, 0), (0, 1), (0, 23), (0, 4), (3, 0), (0, 1), (0, 10), (0, 11)] = some [(50, .iaload, 1), (51, .iadd, 1), (52, .iload_n 2, 1), (53, .iastore, 1), (54, .aload_n 0, 1), (55, .getfield 86, 3), (58, .bipush 12, 2), (60, .iload_n 1, 1), (61, .imul, 1), (62, .aload_n 0, 1), (63, .getfield 80, 3), (66, .iload_n 1, 1), (67, .iaload, 1), (68, .iadd, 1)] := by decide +kernel
theorem dX10_answer_50 : decode cX10_answer 50 = .ok (.iaload, 1) := dz_at dqX10_answer_p152 0 rfl
theorem dX10_answer_51 : decode cX10_answer 51 = .ok (.iadd, 1) := dz_at dqX10_answer_p152 1 rfl
theorem dX10_answer_52 : decode cX10_answer 52 = .ok (.iload_n 2, 1) := dz_at dqX10_answer_p152 2 rfl
theorem dX10_answer_53 : decode cX10_answer 53 = .ok (.iastore, 1) := dz_at dqX10_answer_p152 3 rfl
theorem dX10_answer_54 : decode cX10_answer 54 = .ok (.aload_n 0, 1) := dz_at dqX10_answer_p152 4 rfl
theorem dX10_answer_55 : decode cX10_answer 55 = .ok (.getfield 86, 3) := dz_at dqX10_answer_p152 5 rfl
theorem dX10_answer_58 : decode cX10_answer 58 = .ok (.bipush 12, 2) := dz_at dqX10_answer_p152 6 rfl
theorem dX10_answer_60 : decode cX10_answer 60 = .ok (.iload_n 1, 1) := dz_at dqX10_answer_p152 7 rfl
theorem dX10_answer_61 : decode cX10_answer 61 = .ok (.imul, 1) := dz_at dqX10_answer_p152 8 rfl
theorem dX10_answer_62 : decode cX10_answer 62 = .ok (.aload_n 0, 1) := dz_at dqX10_answer_p152 9 rfl
theorem dX10_answer_63 : decode cX10_answer 63 = .ok (.getfield 80, 3) := dz_at dqX10_answer_p152 10 rfl
theorem dX10_answer_66 : decode cX10_answer 66 = .ok (.iload_n 1, 1) := dz_at dqX10_answer_p152 11 rfl
theorem dX10_answer_67 : decode cX10_answer 67 = .ok (.iaload, 1) := dz_at dqX10_answer_p152 12 rfl
theorem dX10_answer_68 : decode cX10_answer 68 = .ok (.iadd, 1) := dz_at dqX10_answer_p152 13 rfl
theorem dX10_answer_69 : decode cX10_answer 69 = .ok (.iload_n 3, 1) := by decide +kernel
theorem dX10_answer_70 : decode cX10_answer 70 = .ok (.bastore, 1) := by decide +kernel
set_option maxRecDepth 20000 in
theorem dqX10_answer_p153 : dz_rn 71 (cX10_answer.data.toList.drop 71) [(0, 4), (3, 0), (0, 1), (0, 41), (0, 10), (0, 9), (0, 11), (0, 22), (0, 4), (3, 0), (0, 1), (0, 10), (0, 12)] = some [(71, .aload_n 0, 1), (72, .getfield 80, 3), (75, .iload_n 1, 1), (76, .dup2, 1), (77, .iaload, 1), (78, .iconst 1, 1), (79, .iadd, 1), (80, .iastore, 1), (81, .aload_n 0, 1), (82, .getfield 80, 3), (85, .iload_n 1, 1), (86, .iaload, 1), (87, .ireturn, 1)] := by decide +kernel
theorem dX10_answer_71 : decode cX10_answer 71 = .ok (.aload_n 0, 1) := dz_at dqX10_answer_p153 0 rfl
theorem dX10_answer_72 : decode cX10_answer 72 = .ok (.getfield 80, 3) := dz_at dqX10_answer_p153 1 rfl
theorem dX10_answer_75 : decode cX10_answer 75 = .ok (.iload_n 1, 1) := dz_at dqX10_answer_p153 2 rfl
theorem dX10_answer_76 : decode cX10_answer 76 = .ok (.dup2, 1) := dz_at dqX10_answer_p153 3 rfl
theorem dX10_answer_77 : decode cX10_answer 77 = .ok (.iaload, 1) := dz_at dqX10_answer_p153 4 rfl
theorem dX10_answer_78 : decode cX10_answer 78 = .ok (.iconst 1, 1) := dz_at dqX10_answer_p153 5 rfl
theorem dX10_answer_79 : decode cX10_answer 79 = .ok (.iadd, 1) := dz_at dqX10_answer_p153 6 rfl
theorem dX10_answer_80 : decode cX10_answer 80 = .ok (.iastore, 1) := dz_at dqX10_answer_p153 7 rfl
theorem dX10_answer_81 : decode cX10_answer 81 = .ok (.aload_n 0, 1) := dz_at dqX10_answer_p153 8 rfl
theorem dX10_answer_82 : decode cX10_answer 82 = .ok (.getfield 80, 3) := dz_at dqX10_answer_p153 9 rfl
theorem dX10_answer_85 : decode cX10_answer 85 = .ok (.iload_n 1, 1) := dz_at dqX10_answer_p153 10 rfl
theorem dX10_answer_86 : decode cX10_answer 86 = .ok (.iaload, 1) := dz_at dqX10_answer_p153 11 rfl
theorem dX10_answer_87 : decode cX10_answer 87 = .ok (.ireturn, 1) := dz_at dqX10_answer_p153 12 rfl
set_option maxRecDepth 20000 in
theorem dqX10_isRight_p150 : dz_rn 0 (cX10_isRight.data.toList.drop 0) [(2, 0), (0, 0), (2, 0), (0, 27), (0, 9), (0, 11), (0, 1), (0, 23), (0, 26), (2, 0), (0, 0), (2, 0), (0, 30), (0, 9)] = some [(0, .bipush 100, 2), (2, .iload_n 0, 1), (3, .bipush 9, 2), (5, .idiv, 1), (6, .iconst 1, 1), (7, .iadd, 1), (8, .iload_n 1, 1), (9, .imul, 1), (10, .isub, 1), (11, .bipush 10, 2), (13, .iload_n 0, 1), (14, .bipush 9, 2), (16, .irem, 1), (17, .iconst 1, 1)] := by decide +kernel
theorem dX10_isRight_0 : decode cX10_isRight 0 = .ok (.bipush 100, 2) := dz_at dqX10_isRight_p150 0 rfl
theorem dX10_isRight_2 : decode cX10_isRight 2 = .ok (.iload_n 0, 1) := dz_at dqX10_isRight_p150 1 rfl
theorem dX10_isRight_3 : decode cX10_isRight 3 = .ok (.bipush 9, 2) := dz_at dqX10_isRight_p150 2 rfl
theorem dX10_isRight_5 : decode cX10_isRight 5 = .ok (.idiv, 1) := dz_at dqX10_isRight_p150 3 rfl
theorem dX10_isRight_6 : decode cX10_isRight 6 = .ok (.iconst 1, 1) := dz_at dqX10_isRight_p150 4 rfl
theorem dX10_isRight_7 : decode cX10_isRight 7 = .ok (.iadd, 1) := dz_at dqX10_isRight_p150 5 rfl
theorem dX10_isRight_8 : decode cX10_isRight 8 = .ok (.iload_n 1, 1) := dz_at dqX10_isRight_p150 6 rfl
theorem dX10_isRight_9 : decode cX10_isRight 9 = .ok (.imul, 1) := dz_at dqX10_isRight_p150 7 rfl
theorem dX10_isRight_10 : decode cX10_isRight 10 = .ok (.isub, 1) := dz_at dqX10_isRight_p150 8 rfl
theorem dX10_isRight_11 : decode cX10_isRight 11 = .ok (.bipush 10, 2) := dz_at dqX10_isRight_p150 9 rfl
theorem dX10_isRight_13 : decode cX10_isRight 13 = .ok (.iload_n 0, 1) := dz_at dqX10_isRight_p150 10 rfl
theorem dX10_isRight_14 : decode cX10_isRight 14 = .ok (.bipush 9, 2) := dz_at dqX10_isRight_p150 11 rfl
theorem dX10_isRight_16 : decode cX10_isRight 16 = .ok (.irem, 1) := dz_at dqX10_isRight_p150 12 rfl
theorem dX10_isRight_17 : decode cX10_isRight 17 = .ok (.iconst 1, 1) := dz_at dqX10_isRight_p150 13 rfl
set_option maxRecDepth 20000 in
theorem dqX10_isRight_p151 : dz_rn 18 (cX10_isRight.data.toList.drop 18) [(0, 11), (0, 23), (4, 3), (0, 9), (4, 0), (0, 8), (0, 12)] = some [(18, .iadd, 1), (19, .imul, 1), (20, .if_icmp .lt 7, 3), (23, .iconst 1, 1), (24, .goto 4, 3), (27, .iconst 0, 1), (28, .ireturn, 1)] := by decide +kernel
theorem dX10_isRight_18 : decode cX10_isRight 18 = .ok (.iadd, 1) := dz_at dqX10_isRight_p151 0 rfl
theorem dX10_isRight_19 : decode cX10_isRight 19 = .ok (.imul, 1) := dz_at dqX10_isRight_p151 1 rfl
theorem dX10_isRight_20 : decode cX10_isRight 20 = .ok (.if_icmp .lt 7, 3) := dz_at dqX10_isRight_p151 2 rfl
theorem dX10_isRight_23 : decode cX10_isRight 23 = .ok (.iconst 1, 1) := dz_at dqX10_isRight_p151 3 rfl
theorem dX10_isRight_24 : decode cX10_isRight 24 = .ok (.goto 4, 3) := dz_at dqX10_isRight_p151 4 rfl
theorem dX10_isRight_27 : decode cX10_isRight 27 = .ok (.iconst 0, 1) := dz_at dqX10_isRight_p151 5 rfl
theorem dX10_isRight_28 : decode cX10_isRight 28 = .ok (.ireturn, 1) := dz_at dqX10_isRight_p151 6 rfl
set_option maxRecDepth 20000 in
theorem ggX10_agrees_X10_isRight : GoodIn wsX10_agrees wsX10_isRight := goodIn_r _ [7] rfl (by decide +kernel)
set_option maxRecDepth 20000 in
theorem gX10_agrees_X10_isRight : GoodIn wsX10_agrees (va_wsS RX10 257 yX10_isRight wsX10_isRight) := goodIn_app (goodIn_of _ (by decide +kernel)) ggX10_agrees_X10_isRight
set_option maxRecDepth 20000 in
theorem dqX10_agrees_p150 : dz_rn 0 (cX10_agrees.data.toList.drop 0) [(0, 8), (0, 21), (0, 8), (1, 1), (1, 0), (0, 4), (3, 0), (0, 1), (0, 10), (4, 4), (0, 3), (0, 2), (0, 4), (3, 0)] = some [(0, .iconst 0, 1), (1, .istore_n 3, 1), (2, .iconst 0, 1), (3, .istore 4, 2), (5, .iload 4, 2), (7, .aload_n 0, 1), (8, .getfield 80, 3), (11, .iload_n 1, 1), (12, .iaload, 1), (13, .if_icmp .ge 48, 3), (16, .iload_n 3, 1), (17, .iload_n 2, 1), (18, .aload_n 0, 1), (19, .getfield 83, 3)] := by decide +kernel
theorem dX10_agrees_0 : decode cX10_agrees 0 = .ok (.iconst 0, 1) := dz_at dqX10_agrees_p150 0 rfl
theorem dX10_agrees_1 : decode cX10_agrees 1 = .ok (.istore_n 3, 1) := dz_at dqX10_agrees_p150 1 rfl
theorem dX10_agrees_2 : decode cX10_agrees 2 = .ok (.iconst 0, 1) := dz_at dqX10_agrees_p150 2 rfl
theorem dX10_agrees_3 : decode cX10_agrees 3 = .ok (.istore 4, 2) := dz_at dqX10_agrees_p150 3 rfl
theorem dX10_agrees_5 : decode cX10_agrees 5 = .ok (.iload 4, 2) := dz_at dqX10_agrees_p150 4 rfl
theorem dX10_agrees_7 : decode cX10_agrees 7 = .ok (.aload_n 0, 1) := dz_at dqX10_agrees_p150 5 rfl
theorem dX10_agrees_8 : decode cX10_agrees 8 = .ok (.getfield 80, 3) := dz_at dqX10_agrees_p150 6 rfl
theorem dX10_agrees_11 : decode cX10_agrees 11 = .ok (.iload_n 1, 1) := dz_at dqX10_agrees_p150 7 rfl
theorem dX10_agrees_12 : decode cX10_agrees 12 = .ok (.iaload, 1) := dz_at dqX10_agrees_p150 8 rfl
theorem dX10_agrees_13 : decode cX10_agrees 13 = .ok (.if_icmp .ge 48, 3) := dz_at dqX10_agrees_p150 9 rfl
theorem dX10_agrees_16 : decode cX10_agrees 16 = .ok (.iload_n 3, 1) := dz_at dqX10_agrees_p150 10 rfl
theorem dX10_agrees_17 : decode cX10_agrees 17 = .ok (.iload_n 2, 1) := dz_at dqX10_agrees_p150 11 rfl
theorem dX10_agrees_18 : decode cX10_agrees 18 = .ok (.aload_n 0, 1) := dz_at dqX10_agrees_p150 12 rfl
theorem dX10_agrees_19 : decode cX10_agrees 19 = .ok (.getfield 83, 3) := dz_at dqX10_agrees_p150 13 rfl
set_option maxRecDepth 20000 in
theorem dqX10_agrees_p151 : dz_rn 22 (cX10_agrees.data.toList.drop 22) [(2, 0), (0, 1), (0, 23), (1, 0), (0, 11), (0, 10), (3, 2), (0, 4), (3, 0), (2, 0), (0, 1), (0, 23), (1, 0), (0, 11)] = some [(22, .bipush 12, 2), (24, .iload_n 1, 1), (25, .imul, 1), (26, .iload 4, 2), (28, .iadd, 1), (29, .iaload, 1), (30, .invokestatic 257, 3), (33, .aload_n 0, 1), (34, .getfield 86, 3), (37, .bipush 12, 2), (39, .iload_n 1, 1), (40, .imul, 1), (41, .iload 4, 2), (43, .iadd, 1)] := by decide +kernel
theorem dX10_agrees_22 : decode cX10_agrees 22 = .ok (.bipush 12, 2) := dz_at dqX10_agrees_p151 0 rfl
theorem dX10_agrees_24 : decode cX10_agrees 24 = .ok (.iload_n 1, 1) := dz_at dqX10_agrees_p151 1 rfl
theorem dX10_agrees_25 : decode cX10_agrees 25 = .ok (.imul, 1) := dz_at dqX10_agrees_p151 2 rfl
theorem dX10_agrees_26 : decode cX10_agrees 26 = .ok (.iload 4, 2) := dz_at dqX10_agrees_p151 3 rfl
theorem dX10_agrees_28 : decode cX10_agrees 28 = .ok (.iadd, 1) := dz_at dqX10_agrees_p151 4 rfl
theorem dX10_agrees_29 : decode cX10_agrees 29 = .ok (.iaload, 1) := dz_at dqX10_agrees_p151 5 rfl
theorem dX10_agrees_30 : decode cX10_agrees 30 = .ok (.invokestatic 257, 3) := dz_at dqX10_agrees_p151 6 rfl
theorem dX10_agrees_33 : decode cX10_agrees 33 = .ok (.aload_n 0, 1) := dz_at dqX10_agrees_p151 7 rfl
theorem dX10_agrees_34 : decode cX10_agrees 34 = .ok (.getfield 86, 3) := dz_at dqX10_agrees_p151 8 rfl
theorem dX10_agrees_37 : decode cX10_agrees 37 = .ok (.bipush 12, 2) := dz_at dqX10_agrees_p151 9 rfl
theorem dX10_agrees_39 : decode cX10_agrees 39 = .ok (.iload_n 1, 1) := dz_at dqX10_agrees_p151 10 rfl
theorem dX10_agrees_40 : decode cX10_agrees 40 = .ok (.imul, 1) := dz_at dqX10_agrees_p151 11 rfl
theorem dX10_agrees_41 : decode cX10_agrees 41 = .ok (.iload 4, 2) := dz_at dqX10_agrees_p151 12 rfl
theorem dX10_agrees_43 : decode cX10_agrees 43 = .ok (.iadd, 1) := dz_at dqX10_agrees_p151 13 rfl
theorem dX10_agrees_44 : decode cX10_agrees 44 = .ok (.baload, 1) := by decide +kernel
set_option maxRecDepth 20000 in
theorem dqX10_agrees_p152 : dz_rn 45 (cX10_agrees.data.toList.drop 45) [(4, 2), (0, 9), (4, 0), (0, 8), (0, 11), (0, 21), (5, 0), (4, 0), (0, 3), (0, 12)] = some [(45, .if_icmp .ne 7, 3), (48, .iconst 1, 1), (49, .goto 4, 3), (52, .iconst 0, 1), (53, .iadd, 1), (54, .istore_n 3, 1), (55, .iinc 4 1, 3), (58, .goto (-53), 3), (61, .iload_n 3, 1), (62, .ireturn, 1)] := by decide +kernel
theorem dX10_agrees_45 : decode cX10_agrees 45 = .ok (.if_icmp .ne 7, 3) := dz_at dqX10_agrees_p152 0 rfl
theorem dX10_agrees_48 : decode cX10_agrees 48 = .ok (.iconst 1, 1) := dz_at dqX10_agrees_p152 1 rfl
theorem dX10_agrees_49 : decode cX10_agrees 49 = .ok (.goto 4, 3) := dz_at dqX10_agrees_p152 2 rfl
theorem dX10_agrees_52 : decode cX10_agrees 52 = .ok (.iconst 0, 1) := dz_at dqX10_agrees_p152 3 rfl
theorem dX10_agrees_53 : decode cX10_agrees 53 = .ok (.iadd, 1) := dz_at dqX10_agrees_p152 4 rfl
theorem dX10_agrees_54 : decode cX10_agrees 54 = .ok (.istore_n 3, 1) := dz_at dqX10_agrees_p152 5 rfl
theorem dX10_agrees_55 : decode cX10_agrees 55 = .ok (.iinc 4 1, 3) := dz_at dqX10_agrees_p152 6 rfl
theorem dX10_agrees_58 : decode cX10_agrees 58 = .ok (.goto (-53), 3) := dz_at dqX10_agrees_p152 7 rfl
theorem dX10_agrees_61 : decode cX10_agrees 61 = .ok (.iload_n 3, 1) := dz_at dqX10_agrees_p152 8 rfl
theorem dX10_agrees_62 : decode cX10_agrees 62 = .ok (.ireturn, 1) := dz_at dqX10_agrees_p152 9 rfl
set_option maxRecDepth 20000 in
theorem ggX10_partsMost_X10_agrees : GoodIn wsX10_partsMost wsX10_agrees := goodIn_r _ [6, 1, 7, 8, 9, 10, 5, 11, 12, 13, 14, 15, 16, 17, 18, 19, 20, 21, 22, 23, 24, 25, 26, 27, 28, 29, 30, 31, 32, 33, 34, 35, 36, 37, 38, 39, 40, 41, 42, 43, 44, 45, 46, 47, 48, 49, 50] rfl (by decide +kernel)
set_option maxRecDepth 20000 in
theorem gX10_partsMost_X10_agrees : GoodIn wsX10_partsMost (wsV RX10 260 RX10 yX10_agrees wsX10_agrees) := goodIn_app (goodIn_of _ (by decide +kernel)) ggX10_partsMost_X10_agrees
set_option maxRecDepth 20000 in
theorem ggX10_partsMost_X10_isRight : GoodIn wsX10_partsMost wsX10_isRight := goodIn_r _ [11] rfl (by decide +kernel)
set_option maxRecDepth 20000 in
theorem gX10_partsMost_X10_isRight : GoodIn wsX10_partsMost (va_wsS RX10 257 yX10_isRight wsX10_isRight) := goodIn_app (goodIn_of _ (by decide +kernel)) ggX10_partsMost_X10_isRight
set_option maxRecDepth 20000 in
theorem dqX10_partsMost_p150 : dz_rn 0 (cX10_partsMost.data.toList.drop 0) [(0, 13), (0, 20), (4, 13), (0, 21), (0, 8), (1, 1), (0, 9), (1, 1), (1, 0), (2, 0), (4, 4), (0, 8), (1, 1), (0, 8)] = some [(0, .iconst (-1), 1), (1, .istore_n 2, 1), (2, .sipush 1000, 3), (5, .istore_n 3, 1), (6, .iconst 0, 1), (7, .istore 4, 2), (9, .iconst 1, 1), (10, .istore 5, 2), (12, .iload 5, 2), (14, .bipush 61, 2), (16, .if_icmp .ge 136, 3), (19, .iconst 0, 1), (20, .istore 6, 2), (22, .iconst 0, 1)] := by decide +kernel
theorem dX10_partsMost_0 : decode cX10_partsMost 0 = .ok (.iconst (-1), 1) := dz_at dqX10_partsMost_p150 0 rfl
theorem dX10_partsMost_1 : decode cX10_partsMost 1 = .ok (.istore_n 2, 1) := dz_at dqX10_partsMost_p150 1 rfl
theorem dX10_partsMost_2 : decode cX10_partsMost 2 = .ok (.sipush 1000, 3) := dz_at dqX10_partsMost_p150 2 rfl
theorem dX10_partsMost_5 : decode cX10_partsMost 5 = .ok (.istore_n 3, 1) := dz_at dqX10_partsMost_p150 3 rfl
theorem dX10_partsMost_6 : decode cX10_partsMost 6 = .ok (.iconst 0, 1) := dz_at dqX10_partsMost_p150 4 rfl
theorem dX10_partsMost_7 : decode cX10_partsMost 7 = .ok (.istore 4, 2) := dz_at dqX10_partsMost_p150 5 rfl
theorem dX10_partsMost_9 : decode cX10_partsMost 9 = .ok (.iconst 1, 1) := dz_at dqX10_partsMost_p150 6 rfl
theorem dX10_partsMost_10 : decode cX10_partsMost 10 = .ok (.istore 5, 2) := dz_at dqX10_partsMost_p150 7 rfl
theorem dX10_partsMost_12 : decode cX10_partsMost 12 = .ok (.iload 5, 2) := dz_at dqX10_partsMost_p150 8 rfl
theorem dX10_partsMost_14 : decode cX10_partsMost 14 = .ok (.bipush 61, 2) := dz_at dqX10_partsMost_p150 9 rfl
theorem dX10_partsMost_16 : decode cX10_partsMost 16 = .ok (.if_icmp .ge 136, 3) := dz_at dqX10_partsMost_p150 10 rfl
theorem dX10_partsMost_19 : decode cX10_partsMost 19 = .ok (.iconst 0, 1) := dz_at dqX10_partsMost_p150 11 rfl
theorem dX10_partsMost_20 : decode cX10_partsMost 20 = .ok (.istore 6, 2) := dz_at dqX10_partsMost_p150 12 rfl
theorem dX10_partsMost_22 : decode cX10_partsMost 22 = .ok (.iconst 0, 1) := dz_at dqX10_partsMost_p150 13 rfl
set_option maxRecDepth 20000 in
theorem dqX10_partsMost_p151 : dz_rn 23 (cX10_partsMost.data.toList.drop 23) [(1, 1), (1, 0), (2, 0), (4, 4), (0, 4), (0, 1), (1, 0), (3, 1), (0, 4), (3, 0), (0, 1), (0, 10), (4, 2), (0, 9)] = some [(23, .istore 7, 2), (25, .iload 7, 2), (27, .bipush 81, 2), (29, .if_icmp .ge 76, 3), (32, .aload_n 0, 1), (33, .iload_n 1, 1), (34, .iload 7, 2), (36, .invokevirtual 260, 3), (39, .aload_n 0, 1), (40, .getfield 80, 3), (43, .iload_n 1, 1), (44, .iaload, 1), (45, .if_icmp .ne 7, 3), (48, .iconst 1, 1)] := by decide +kernel
theorem dX10_partsMost_23 : decode cX10_partsMost 23 = .ok (.istore 7, 2) := dz_at dqX10_partsMost_p151 0 rfl
theorem dX10_partsMost_25 : decode cX10_partsMost 25 = .ok (.iload 7, 2) := dz_at dqX10_partsMost_p151 1 rfl
theorem dX10_partsMost_27 : decode cX10_partsMost 27 = .ok (.bipush 81, 2) := dz_at dqX10_partsMost_p151 2 rfl
theorem dX10_partsMost_29 : decode cX10_partsMost 29 = .ok (.if_icmp .ge 76, 3) := dz_at dqX10_partsMost_p151 3 rfl
theorem dX10_partsMost_32 : decode cX10_partsMost 32 = .ok (.aload_n 0, 1) := dz_at dqX10_partsMost_p151 4 rfl
theorem dX10_partsMost_33 : decode cX10_partsMost 33 = .ok (.iload_n 1, 1) := dz_at dqX10_partsMost_p151 5 rfl
theorem dX10_partsMost_34 : decode cX10_partsMost 34 = .ok (.iload 7, 2) := dz_at dqX10_partsMost_p151 6 rfl
theorem dX10_partsMost_36 : decode cX10_partsMost 36 = .ok (.invokevirtual 260, 3) := dz_at dqX10_partsMost_p151 7 rfl
theorem dX10_partsMost_39 : decode cX10_partsMost 39 = .ok (.aload_n 0, 1) := dz_at dqX10_partsMost_p151 8 rfl
theorem dX10_partsMost_40 : decode cX10_partsMost 40 = .ok (.getfield 80, 3) := dz_at dqX10_partsMost_p151 9 rfl
theorem dX10_partsMost_43 : decode cX10_partsMost 43 = .ok (.iload_n 1, 1) := dz_at dqX10_partsMost_p151 10 rfl
theorem dX10_partsMost_44 : decode cX10_partsMost 44 = .ok (.iaload, 1) := dz_at dqX10_partsMost_p151 11 rfl
theorem dX10_partsMost_45 : decode cX10_partsMost 45 = .ok (.if_icmp .ne 7, 3) := dz_at dqX10_partsMost_p151 12 rfl
theorem dX10_partsMost_48 : decode cX10_partsMost 48 = .ok (.iconst 1, 1) := dz_at dqX10_partsMost_p151 13 rfl
set_option maxRecDepth 20000 in
theorem dqX10_partsMost_p152 : dz_rn 49 (cX10_partsMost.data.toList.drop 49) [(4, 0), (0, 8), (1, 1), (1, 0), (1, 0), (4, 7), (0, 9), (4, 0), (0, 8), (0, 11), (1, 1), (1, 0), (1, 0), (4, 7)] = some [(49, .goto 4, 3), (52, .iconst 0, 1), (53, .istore 8, 2), (55, .iload 4, 2), (57, .iload 8, 2), (59, .ifCond .eq 7, 3), (62, .iconst 1, 1), (63, .goto 4, 3), (66, .iconst 0, 1), (67, .iadd, 1), (68, .istore 4, 2), (70, .iload 6, 2), (72, .iload 8, 2), (74, .ifCond .eq 21, 3)] := by decide +kernel
theorem dX10_partsMost_49 : decode cX10_partsMost 49 = .ok (.goto 4, 3) := dz_at dqX10_partsMost_p152 0 rfl
theorem dX10_partsMost_52 : decode cX10_partsMost 52 = .ok (.iconst 0, 1) := dz_at dqX10_partsMost_p152 1 rfl
theorem dX10_partsMost_53 : decode cX10_partsMost 53 = .ok (.istore 8, 2) := dz_at dqX10_partsMost_p152 2 rfl
theorem dX10_partsMost_55 : decode cX10_partsMost 55 = .ok (.iload 4, 2) := dz_at dqX10_partsMost_p152 3 rfl
theorem dX10_partsMost_57 : decode cX10_partsMost 57 = .ok (.iload 8, 2) := dz_at dqX10_partsMost_p152 4 rfl
theorem dX10_partsMost_59 : decode cX10_partsMost 59 = .ok (.ifCond .eq 7, 3) := dz_at dqX10_partsMost_p152 5 rfl
theorem dX10_partsMost_62 : decode cX10_partsMost 62 = .ok (.iconst 1, 1) := dz_at dqX10_partsMost_p152 6 rfl
theorem dX10_partsMost_63 : decode cX10_partsMost 63 = .ok (.goto 4, 3) := dz_at dqX10_partsMost_p152 7 rfl
theorem dX10_partsMost_66 : decode cX10_partsMost 66 = .ok (.iconst 0, 1) := dz_at dqX10_partsMost_p152 8 rfl
theorem dX10_partsMost_67 : decode cX10_partsMost 67 = .ok (.iadd, 1) := dz_at dqX10_partsMost_p152 9 rfl
theorem dX10_partsMost_68 : decode cX10_partsMost 68 = .ok (.istore 4, 2) := dz_at dqX10_partsMost_p152 10 rfl
theorem dX10_partsMost_70 : decode cX10_partsMost 70 = .ok (.iload 6, 2) := dz_at dqX10_partsMost_p152 11 rfl
theorem dX10_partsMost_72 : decode cX10_partsMost 72 = .ok (.iload 8, 2) := dz_at dqX10_partsMost_p152 12 rfl
theorem dX10_partsMost_74 : decode cX10_partsMost 74 = .ok (.ifCond .eq 21, 3) := dz_at dqX10_partsMost_p152 13 rfl
set_option maxRecDepth 20000 in
theorem dqX10_partsMost_p153 : dz_rn 77 (cX10_partsMost.data.toList.drop 77) [(1, 0), (1, 0), (3, 2), (4, 7), (0, 9), (4, 0), (0, 13), (4, 0), (0, 8), (0, 11), (1, 1), (5, 0), (4, 0), (1, 0)] = some [(77, .iload 7, 2), (79, .iload 5, 2), (81, .invokestatic 257, 3), (84, .ifCond .eq 7, 3), (87, .iconst 1, 1), (88, .goto 8, 3), (91, .iconst (-1), 1), (92, .goto 4, 3), (95, .iconst 0, 1), (96, .iadd, 1), (97, .istore 6, 2), (99, .iinc 7 1, 3), (102, .goto (-77), 3), (105, .iload 6, 2)] := by decide +kernel
theorem dX10_partsMost_77 : decode cX10_partsMost 77 = .ok (.iload 7, 2) := dz_at dqX10_partsMost_p153 0 rfl
theorem dX10_partsMost_79 : decode cX10_partsMost 79 = .ok (.iload 5, 2) := dz_at dqX10_partsMost_p153 1 rfl
theorem dX10_partsMost_81 : decode cX10_partsMost 81 = .ok (.invokestatic 257, 3) := dz_at dqX10_partsMost_p153 2 rfl
theorem dX10_partsMost_84 : decode cX10_partsMost 84 = .ok (.ifCond .eq 7, 3) := dz_at dqX10_partsMost_p153 3 rfl
theorem dX10_partsMost_87 : decode cX10_partsMost 87 = .ok (.iconst 1, 1) := dz_at dqX10_partsMost_p153 4 rfl
theorem dX10_partsMost_88 : decode cX10_partsMost 88 = .ok (.goto 8, 3) := dz_at dqX10_partsMost_p153 5 rfl
theorem dX10_partsMost_91 : decode cX10_partsMost 91 = .ok (.iconst (-1), 1) := dz_at dqX10_partsMost_p153 6 rfl
theorem dX10_partsMost_92 : decode cX10_partsMost 92 = .ok (.goto 4, 3) := dz_at dqX10_partsMost_p153 7 rfl
theorem dX10_partsMost_95 : decode cX10_partsMost 95 = .ok (.iconst 0, 1) := dz_at dqX10_partsMost_p153 8 rfl
theorem dX10_partsMost_96 : decode cX10_partsMost 96 = .ok (.iadd, 1) := dz_at dqX10_partsMost_p153 9 rfl
theorem dX10_partsMost_97 : decode cX10_partsMost 97 = .ok (.istore 6, 2) := dz_at dqX10_partsMost_p153 10 rfl
theorem dX10_partsMost_99 : decode cX10_partsMost 99 = .ok (.iinc 7 1, 3) := dz_at dqX10_partsMost_p153 11 rfl
theorem dX10_partsMost_102 : decode cX10_partsMost 102 = .ok (.goto (-77), 3) := dz_at dqX10_partsMost_p153 12 rfl
theorem dX10_partsMost_105 : decode cX10_partsMost 105 = .ok (.iload 6, 2) := dz_at dqX10_partsMost_p153 13 rfl
set_option maxRecDepth 20000 in
theorem dqX10_partsMost_p154 : dz_rn 107 (cX10_partsMost.data.toList.drop 107) [(4, 10), (1, 0)] = some [(107, .ifCond .ge 9, 3), (110, .iload 6, 2)] := by decide +kernel
theorem dX10_partsMost_107 : decode cX10_partsMost 107 = .ok (.ifCond .ge 9, 3) := dz_at dqX10_partsMost_p154 0 rfl
theorem dX10_partsMost_110 : decode cX10_partsMost 110 = .ok (.iload 6, 2) := dz_at dqX10_partsMost_p154 1 rfl
theorem dX10_partsMost_112 : decode cX10_partsMost 112 = .ok (.ineg, 1) := by decide +kernel
set_option maxRecDepth 20000 in
theorem dqX10_partsMost_p155 : dz_rn 113 (cX10_partsMost.data.toList.drop 113) [(4, 0), (1, 0), (1, 1), (1, 0), (0, 3), (4, 4), (1, 0), (4, 0), (0, 2), (0, 20), (1, 0), (0, 3), (4, 4), (1, 0)] = some [(113, .goto 5, 3), (116, .iload 6, 2), (118, .istore 6, 2), (120, .iload 6, 2), (122, .iload_n 3, 1), (123, .if_icmp .ge 8, 3), (126, .iload 5, 2), (128, .goto 4, 3), (131, .iload_n 2, 1), (132, .istore_n 2, 1), (133, .iload 6, 2), (135, .iload_n 3, 1), (136, .if_icmp .ge 8, 3), (139, .iload 6, 2)] := by decide +kernel
theorem dX10_partsMost_113 : decode cX10_partsMost 113 = .ok (.goto 5, 3) := dz_at dqX10_partsMost_p155 0 rfl
theorem dX10_partsMost_116 : decode cX10_partsMost 116 = .ok (.iload 6, 2) := dz_at dqX10_partsMost_p155 1 rfl
theorem dX10_partsMost_118 : decode cX10_partsMost 118 = .ok (.istore 6, 2) := dz_at dqX10_partsMost_p155 2 rfl
theorem dX10_partsMost_120 : decode cX10_partsMost 120 = .ok (.iload 6, 2) := dz_at dqX10_partsMost_p155 3 rfl
theorem dX10_partsMost_122 : decode cX10_partsMost 122 = .ok (.iload_n 3, 1) := dz_at dqX10_partsMost_p155 4 rfl
theorem dX10_partsMost_123 : decode cX10_partsMost 123 = .ok (.if_icmp .ge 8, 3) := dz_at dqX10_partsMost_p155 5 rfl
theorem dX10_partsMost_126 : decode cX10_partsMost 126 = .ok (.iload 5, 2) := dz_at dqX10_partsMost_p155 6 rfl
theorem dX10_partsMost_128 : decode cX10_partsMost 128 = .ok (.goto 4, 3) := dz_at dqX10_partsMost_p155 7 rfl
theorem dX10_partsMost_131 : decode cX10_partsMost 131 = .ok (.iload_n 2, 1) := dz_at dqX10_partsMost_p155 8 rfl
theorem dX10_partsMost_132 : decode cX10_partsMost 132 = .ok (.istore_n 2, 1) := dz_at dqX10_partsMost_p155 9 rfl
theorem dX10_partsMost_133 : decode cX10_partsMost 133 = .ok (.iload 6, 2) := dz_at dqX10_partsMost_p155 10 rfl
theorem dX10_partsMost_135 : decode cX10_partsMost 135 = .ok (.iload_n 3, 1) := dz_at dqX10_partsMost_p155 11 rfl
theorem dX10_partsMost_136 : decode cX10_partsMost 136 = .ok (.if_icmp .ge 8, 3) := dz_at dqX10_partsMost_p155 12 rfl
theorem dX10_partsMost_139 : decode cX10_partsMost 139 = .ok (.iload 6, 2) := dz_at dqX10_partsMost_p155 13 rfl
set_option maxRecDepth 20000 in
theorem dqX10_partsMost_p156 : dz_rn 141 (cX10_partsMost.data.toList.drop 141) [(4, 0), (0, 3), (0, 21), (5, 0), (4, 0), (1, 0), (4, 8), (0, 13), (4, 0), (0, 2), (0, 12)] = some [(141, .goto 4, 3), (144, .iload_n 3, 1), (145, .istore_n 3, 1), (146, .iinc 5 1, 3), (149, .goto (-137), 3), (152, .iload 4, 2), (154, .ifCond .ne 7, 3), (157, .iconst (-1), 1), (158, .goto 4, 3), (161, .iload_n 2, 1), (162, .ireturn, 1)] := by decide +kernel
theorem dX10_partsMost_141 : decode cX10_partsMost 141 = .ok (.goto 4, 3) := dz_at dqX10_partsMost_p156 0 rfl
theorem dX10_partsMost_144 : decode cX10_partsMost 144 = .ok (.iload_n 3, 1) := dz_at dqX10_partsMost_p156 1 rfl
theorem dX10_partsMost_145 : decode cX10_partsMost 145 = .ok (.istore_n 3, 1) := dz_at dqX10_partsMost_p156 2 rfl
theorem dX10_partsMost_146 : decode cX10_partsMost 146 = .ok (.iinc 5 1, 3) := dz_at dqX10_partsMost_p156 3 rfl
theorem dX10_partsMost_149 : decode cX10_partsMost 149 = .ok (.goto (-137), 3) := dz_at dqX10_partsMost_p156 4 rfl
theorem dX10_partsMost_152 : decode cX10_partsMost 152 = .ok (.iload 4, 2) := dz_at dqX10_partsMost_p156 5 rfl
theorem dX10_partsMost_154 : decode cX10_partsMost 154 = .ok (.ifCond .ne 7, 3) := dz_at dqX10_partsMost_p156 6 rfl
theorem dX10_partsMost_157 : decode cX10_partsMost 157 = .ok (.iconst (-1), 1) := dz_at dqX10_partsMost_p156 7 rfl
theorem dX10_partsMost_158 : decode cX10_partsMost 158 = .ok (.goto 4, 3) := dz_at dqX10_partsMost_p156 8 rfl
theorem dX10_partsMost_161 : decode cX10_partsMost 161 = .ok (.iload_n 2, 1) := dz_at dqX10_partsMost_p156 9 rfl
theorem dX10_partsMost_162 : decode cX10_partsMost 162 = .ok (.ireturn, 1) := dz_at dqX10_partsMost_p156 10 rfl
set_option maxRecDepth 20000 in
theorem ggX10_pupil_X10_isPupil : GoodIn wsX10_pupil wsX10_isPupil := goodIn_r _ [5, 6, 7, 4, 8] rfl (by decide +kernel)
set_option maxRecDepth 20000 in
theorem gX10_pupil_X10_isPupil : GoodIn wsX10_pupil (va_wsS RX10 254 yX10_isPupil wsX10_isPupil) := goodIn_app (goodIn_of _ (by decide +kernel)) ggX10_pupil_X10_isPupil
set_option maxRecDepth 20000 in
theorem ggX10_pupil_X10_in : GoodIn wsX10_pupil wsX10_in := goodIn_r _ [8] rfl (by decide +kernel)
set_option maxRecDepth 20000 in
theorem gX10_pupil_X10_in : GoodIn wsX10_pupil (va_wsS RX10 93 yX10_in wsX10_in) := goodIn_app (goodIn_of _ (by decide +kernel)) ggX10_pupil_X10_in
set_option maxRecDepth 20000 in
theorem ggX10_pupil_X10_agrees : GoodIn wsX10_pupil wsX10_agrees := goodIn_r _ [12, 1, 13, 14, 15, 16, 4, 17, 22, 23, 24, 25, 26, 27, 28, 29, 30, 31, 32, 33, 34, 35, 36, 37, 38, 39, 40, 41, 42, 43, 44, 45, 46, 47, 48, 49, 50, 51, 52, 53, 54, 55, 56, 57, 58, 59, 60] rfl (by decide +kernel)
set_option maxRecDepth 20000 in
theorem gX10_pupil_X10_agrees : GoodIn wsX10_pupil (wsV RX10 260 RX10 yX10_agrees wsX10_agrees) := goodIn_app (goodIn_of _ (by decide +kernel)) ggX10_pupil_X10_agrees
set_option maxRecDepth 20000 in
theorem ggX10_pupil_X10_partsMost : GoodIn wsX10_pupil wsX10_partsMost := goodIn_r _ [21, 1, 9, 10, 11, 4, 12, 13, 14, 15, 16, 17, 22, 23, 24, 25, 26, 27, 28, 29, 30, 31, 32, 33, 34, 35, 36, 37, 38, 39, 40, 41, 42, 43, 44, 45, 46, 47, 48, 49, 50, 51, 52, 53, 54, 55, 56, 57, 58, 59, 60] rfl (by decide +kernel)
set_option maxRecDepth 20000 in
theorem gX10_pupil_X10_partsMost : GoodIn wsX10_pupil (wsV RX10 263 RX10 yX10_partsMost wsX10_partsMost) := goodIn_app (goodIn_of _ (by decide +kernel)) ggX10_pupil_X10_partsMost
set_option maxRecDepth 20000 in
theorem dqX10_pupil_p150 : dz_rn 0 (cX10_pupil.data.toList.drop 0) [(0, 1), (3, 2), (4, 8), (2, 0), (0, 12), (0, 2), (0, 8), (0, 15), (3, 2), (4, 8), (2, 0), (0, 12), (0, 8), (0, 21)] = some [(0, .iload_n 1, 1), (1, .invokestatic 254, 3), (4, .ifCond .ne 6, 3), (7, .bipush (-2), 2), (9, .ireturn, 1), (10, .iload_n 2, 1), (11, .iconst 0, 1), (12, .iconst 3, 1), (13, .invokestatic 93, 3), (16, .ifCond .ne 6, 3), (19, .bipush (-3), 2), (21, .ireturn, 1), (22, .iconst 0, 1), (23, .istore_n 3, 1)] := by decide +kernel
theorem dX10_pupil_0 : decode cX10_pupil 0 = .ok (.iload_n 1, 1) := dz_at dqX10_pupil_p150 0 rfl
theorem dX10_pupil_1 : decode cX10_pupil 1 = .ok (.invokestatic 254, 3) := dz_at dqX10_pupil_p150 1 rfl
theorem dX10_pupil_4 : decode cX10_pupil 4 = .ok (.ifCond .ne 6, 3) := dz_at dqX10_pupil_p150 2 rfl
theorem dX10_pupil_7 : decode cX10_pupil 7 = .ok (.bipush (-2), 2) := dz_at dqX10_pupil_p150 3 rfl
theorem dX10_pupil_9 : decode cX10_pupil 9 = .ok (.ireturn, 1) := dz_at dqX10_pupil_p150 4 rfl
theorem dX10_pupil_10 : decode cX10_pupil 10 = .ok (.iload_n 2, 1) := dz_at dqX10_pupil_p150 5 rfl
theorem dX10_pupil_11 : decode cX10_pupil 11 = .ok (.iconst 0, 1) := dz_at dqX10_pupil_p150 6 rfl
theorem dX10_pupil_12 : decode cX10_pupil 12 = .ok (.iconst 3, 1) := dz_at dqX10_pupil_p150 7 rfl
theorem dX10_pupil_13 : decode cX10_pupil 13 = .ok (.invokestatic 93, 3) := dz_at dqX10_pupil_p150 8 rfl
theorem dX10_pupil_16 : decode cX10_pupil 16 = .ok (.ifCond .ne 6, 3) := dz_at dqX10_pupil_p150 9 rfl
theorem dX10_pupil_19 : decode cX10_pupil 19 = .ok (.bipush (-3), 2) := dz_at dqX10_pupil_p150 10 rfl
theorem dX10_pupil_21 : decode cX10_pupil 21 = .ok (.ireturn, 1) := dz_at dqX10_pupil_p150 11 rfl
theorem dX10_pupil_22 : decode cX10_pupil 22 = .ok (.iconst 0, 1) := dz_at dqX10_pupil_p150 12 rfl
theorem dX10_pupil_23 : decode cX10_pupil 23 = .ok (.istore_n 3, 1) := dz_at dqX10_pupil_p150 13 rfl
set_option maxRecDepth 20000 in
theorem dqX10_pupil_p151 : dz_rn 24 (cX10_pupil.data.toList.drop 24) [(0, 8), (1, 1), (0, 13), (1, 1), (0, 8), (1, 1), (1, 0), (2, 0), (4, 4), (0, 4), (0, 1), (1, 0), (3, 1), (1, 1)] = some [(24, .iconst 0, 1), (25, .istore 4, 2), (27, .iconst (-1), 1), (28, .istore 5, 2), (30, .iconst 0, 1), (31, .istore 6, 2), (33, .iload 6, 2), (35, .bipush 81, 2), (37, .if_icmp .ge 69, 3), (40, .aload_n 0, 1), (41, .iload_n 1, 1), (42, .iload 6, 2), (44, .invokevirtual 260, 3), (47, .istore 7, 2)] := by decide +kernel
theorem dX10_pupil_24 : decode cX10_pupil 24 = .ok (.iconst 0, 1) := dz_at dqX10_pupil_p151 0 rfl
theorem dX10_pupil_25 : decode cX10_pupil 25 = .ok (.istore 4, 2) := dz_at dqX10_pupil_p151 1 rfl
theorem dX10_pupil_27 : decode cX10_pupil 27 = .ok (.iconst (-1), 1) := dz_at dqX10_pupil_p151 2 rfl
theorem dX10_pupil_28 : decode cX10_pupil 28 = .ok (.istore 5, 2) := dz_at dqX10_pupil_p151 3 rfl
theorem dX10_pupil_30 : decode cX10_pupil 30 = .ok (.iconst 0, 1) := dz_at dqX10_pupil_p151 4 rfl
theorem dX10_pupil_31 : decode cX10_pupil 31 = .ok (.istore 6, 2) := dz_at dqX10_pupil_p151 5 rfl
theorem dX10_pupil_33 : decode cX10_pupil 33 = .ok (.iload 6, 2) := dz_at dqX10_pupil_p151 6 rfl
theorem dX10_pupil_35 : decode cX10_pupil 35 = .ok (.bipush 81, 2) := dz_at dqX10_pupil_p151 7 rfl
theorem dX10_pupil_37 : decode cX10_pupil 37 = .ok (.if_icmp .ge 69, 3) := dz_at dqX10_pupil_p151 8 rfl
theorem dX10_pupil_40 : decode cX10_pupil 40 = .ok (.aload_n 0, 1) := dz_at dqX10_pupil_p151 9 rfl
theorem dX10_pupil_41 : decode cX10_pupil 41 = .ok (.iload_n 1, 1) := dz_at dqX10_pupil_p151 10 rfl
theorem dX10_pupil_42 : decode cX10_pupil 42 = .ok (.iload 6, 2) := dz_at dqX10_pupil_p151 11 rfl
theorem dX10_pupil_44 : decode cX10_pupil 44 = .ok (.invokevirtual 260, 3) := dz_at dqX10_pupil_p151 12 rfl
theorem dX10_pupil_47 : decode cX10_pupil 47 = .ok (.istore 7, 2) := dz_at dqX10_pupil_p151 13 rfl
set_option maxRecDepth 20000 in
theorem dqX10_pupil_p152 : dz_rn 49 (cX10_pupil.data.toList.drop 49) [(0, 3), (1, 0), (0, 4), (3, 0), (0, 1), (0, 10), (4, 2), (0, 9), (4, 0), (0, 8), (0, 11), (0, 21), (1, 0), (1, 0)] = some [(49, .iload_n 3, 1), (50, .iload 7, 2), (52, .aload_n 0, 1), (53, .getfield 80, 3), (56, .iload_n 1, 1), (57, .iaload, 1), (58, .if_icmp .ne 7, 3), (61, .iconst 1, 1), (62, .goto 4, 3), (65, .iconst 0, 1), (66, .iadd, 1), (67, .istore_n 3, 1), (68, .iload 7, 2), (70, .iload 5, 2)] := by decide +kernel
theorem dX10_pupil_49 : decode cX10_pupil 49 = .ok (.iload_n 3, 1) := dz_at dqX10_pupil_p152 0 rfl
theorem dX10_pupil_50 : decode cX10_pupil 50 = .ok (.iload 7, 2) := dz_at dqX10_pupil_p152 1 rfl
theorem dX10_pupil_52 : decode cX10_pupil 52 = .ok (.aload_n 0, 1) := dz_at dqX10_pupil_p152 2 rfl
theorem dX10_pupil_53 : decode cX10_pupil 53 = .ok (.getfield 80, 3) := dz_at dqX10_pupil_p152 3 rfl
theorem dX10_pupil_56 : decode cX10_pupil 56 = .ok (.iload_n 1, 1) := dz_at dqX10_pupil_p152 4 rfl
theorem dX10_pupil_57 : decode cX10_pupil 57 = .ok (.iaload, 1) := dz_at dqX10_pupil_p152 5 rfl
theorem dX10_pupil_58 : decode cX10_pupil 58 = .ok (.if_icmp .ne 7, 3) := dz_at dqX10_pupil_p152 6 rfl
theorem dX10_pupil_61 : decode cX10_pupil 61 = .ok (.iconst 1, 1) := dz_at dqX10_pupil_p152 7 rfl
theorem dX10_pupil_62 : decode cX10_pupil 62 = .ok (.goto 4, 3) := dz_at dqX10_pupil_p152 8 rfl
theorem dX10_pupil_65 : decode cX10_pupil 65 = .ok (.iconst 0, 1) := dz_at dqX10_pupil_p152 9 rfl
theorem dX10_pupil_66 : decode cX10_pupil 66 = .ok (.iadd, 1) := dz_at dqX10_pupil_p152 10 rfl
theorem dX10_pupil_67 : decode cX10_pupil 67 = .ok (.istore_n 3, 1) := dz_at dqX10_pupil_p152 11 rfl
theorem dX10_pupil_68 : decode cX10_pupil 68 = .ok (.iload 7, 2) := dz_at dqX10_pupil_p152 12 rfl
theorem dX10_pupil_70 : decode cX10_pupil 70 = .ok (.iload 5, 2) := dz_at dqX10_pupil_p152 13 rfl
set_option maxRecDepth 20000 in
theorem dqX10_pupil_p153 : dz_rn 72 (cX10_pupil.data.toList.drop 72) [(4, 6), (1, 0), (4, 0), (1, 0), (1, 1), (1, 0), (1, 0), (4, 6), (1, 0), (4, 0), (1, 0), (1, 1), (5, 0), (4, 0)] = some [(72, .if_icmp .le 8, 3), (75, .iload 6, 2), (77, .goto 5, 3), (80, .iload 4, 2), (82, .istore 4, 2), (84, .iload 7, 2), (86, .iload 5, 2), (88, .if_icmp .le 8, 3), (91, .iload 7, 2), (93, .goto 5, 3), (96, .iload 5, 2), (98, .istore 5, 2), (100, .iinc 6 1, 3), (103, .goto (-70), 3)] := by decide +kernel
theorem dX10_pupil_72 : decode cX10_pupil 72 = .ok (.if_icmp .le 8, 3) := dz_at dqX10_pupil_p153 0 rfl
theorem dX10_pupil_75 : decode cX10_pupil 75 = .ok (.iload 6, 2) := dz_at dqX10_pupil_p153 1 rfl
theorem dX10_pupil_77 : decode cX10_pupil 77 = .ok (.goto 5, 3) := dz_at dqX10_pupil_p153 2 rfl
theorem dX10_pupil_80 : decode cX10_pupil 80 = .ok (.iload 4, 2) := dz_at dqX10_pupil_p153 3 rfl
theorem dX10_pupil_82 : decode cX10_pupil 82 = .ok (.istore 4, 2) := dz_at dqX10_pupil_p153 4 rfl
theorem dX10_pupil_84 : decode cX10_pupil 84 = .ok (.iload 7, 2) := dz_at dqX10_pupil_p153 5 rfl
theorem dX10_pupil_86 : decode cX10_pupil 86 = .ok (.iload 5, 2) := dz_at dqX10_pupil_p153 6 rfl
theorem dX10_pupil_88 : decode cX10_pupil 88 = .ok (.if_icmp .le 8, 3) := dz_at dqX10_pupil_p153 7 rfl
theorem dX10_pupil_91 : decode cX10_pupil 91 = .ok (.iload 7, 2) := dz_at dqX10_pupil_p153 8 rfl
theorem dX10_pupil_93 : decode cX10_pupil 93 = .ok (.goto 5, 3) := dz_at dqX10_pupil_p153 9 rfl
theorem dX10_pupil_96 : decode cX10_pupil 96 = .ok (.iload 5, 2) := dz_at dqX10_pupil_p153 10 rfl
theorem dX10_pupil_98 : decode cX10_pupil 98 = .ok (.istore 5, 2) := dz_at dqX10_pupil_p153 11 rfl
theorem dX10_pupil_100 : decode cX10_pupil 100 = .ok (.iinc 6 1, 3) := dz_at dqX10_pupil_p153 12 rfl
theorem dX10_pupil_103 : decode cX10_pupil 103 = .ok (.goto (-70), 3) := dz_at dqX10_pupil_p153 13 rfl
set_option maxRecDepth 20000 in
theorem dqX10_pupil_p154 : dz_rn 106 (cX10_pupil.data.toList.drop 106) [(0, 2), (4, 8), (0, 3), (4, 0), (0, 2), (0, 9), (4, 2), (2, 0), (1, 0), (2, 0), (0, 27), (0, 9), (0, 11), (0, 23)] = some [(106, .iload_n 2, 1), (107, .ifCond .ne 7, 3), (110, .iload_n 3, 1), (111, .goto 47, 3), (114, .iload_n 2, 1), (115, .iconst 1, 1), (116, .if_icmp .ne 27, 3), (119, .bipush 100, 2), (121, .iload 4, 2), (123, .bipush 9, 2), (125, .idiv, 1), (126, .iconst 1, 1), (127, .iadd, 1), (128, .imul, 1)] := by decide +kernel
theorem dX10_pupil_106 : decode cX10_pupil 106 = .ok (.iload_n 2, 1) := dz_at dqX10_pupil_p154 0 rfl
theorem dX10_pupil_107 : decode cX10_pupil 107 = .ok (.ifCond .ne 7, 3) := dz_at dqX10_pupil_p154 1 rfl
theorem dX10_pupil_110 : decode cX10_pupil 110 = .ok (.iload_n 3, 1) := dz_at dqX10_pupil_p154 2 rfl
theorem dX10_pupil_111 : decode cX10_pupil 111 = .ok (.goto 47, 3) := dz_at dqX10_pupil_p154 3 rfl
theorem dX10_pupil_114 : decode cX10_pupil 114 = .ok (.iload_n 2, 1) := dz_at dqX10_pupil_p154 4 rfl
theorem dX10_pupil_115 : decode cX10_pupil 115 = .ok (.iconst 1, 1) := dz_at dqX10_pupil_p154 5 rfl
theorem dX10_pupil_116 : decode cX10_pupil 116 = .ok (.if_icmp .ne 27, 3) := dz_at dqX10_pupil_p154 6 rfl
theorem dX10_pupil_119 : decode cX10_pupil 119 = .ok (.bipush 100, 2) := dz_at dqX10_pupil_p154 7 rfl
theorem dX10_pupil_121 : decode cX10_pupil 121 = .ok (.iload 4, 2) := dz_at dqX10_pupil_p154 8 rfl
theorem dX10_pupil_123 : decode cX10_pupil 123 = .ok (.bipush 9, 2) := dz_at dqX10_pupil_p154 9 rfl
theorem dX10_pupil_125 : decode cX10_pupil 125 = .ok (.idiv, 1) := dz_at dqX10_pupil_p154 10 rfl
theorem dX10_pupil_126 : decode cX10_pupil 126 = .ok (.iconst 1, 1) := dz_at dqX10_pupil_p154 11 rfl
theorem dX10_pupil_127 : decode cX10_pupil 127 = .ok (.iadd, 1) := dz_at dqX10_pupil_p154 12 rfl
theorem dX10_pupil_128 : decode cX10_pupil 128 = .ok (.imul, 1) := dz_at dqX10_pupil_p154 13 rfl
set_option maxRecDepth 20000 in
theorem dqX10_pupil_p155 : dz_rn 129 (cX10_pupil.data.toList.drop 129) [(2, 0), (1, 0), (2, 0), (0, 30), (0, 9), (0, 11), (0, 23), (0, 11), (4, 0), (0, 2), (0, 14), (4, 2), (1, 0), (4, 0)] = some [(129, .bipush 10, 2), (131, .iload 4, 2), (133, .bipush 9, 2), (135, .irem, 1), (136, .iconst 1, 1), (137, .iadd, 1), (138, .imul, 1), (139, .iadd, 1), (140, .goto 18, 3), (143, .iload_n 2, 1), (144, .iconst 2, 1), (145, .if_icmp .ne 8, 3), (148, .iload 5, 2), (150, .goto 8, 3)] := by decide +kernel
theorem dX10_pupil_129 : decode cX10_pupil 129 = .ok (.bipush 10, 2) := dz_at dqX10_pupil_p155 0 rfl
theorem dX10_pupil_131 : decode cX10_pupil 131 = .ok (.iload 4, 2) := dz_at dqX10_pupil_p155 1 rfl
theorem dX10_pupil_133 : decode cX10_pupil 133 = .ok (.bipush 9, 2) := dz_at dqX10_pupil_p155 2 rfl
theorem dX10_pupil_135 : decode cX10_pupil 135 = .ok (.irem, 1) := dz_at dqX10_pupil_p155 3 rfl
theorem dX10_pupil_136 : decode cX10_pupil 136 = .ok (.iconst 1, 1) := dz_at dqX10_pupil_p155 4 rfl
theorem dX10_pupil_137 : decode cX10_pupil 137 = .ok (.iadd, 1) := dz_at dqX10_pupil_p155 5 rfl
theorem dX10_pupil_138 : decode cX10_pupil 138 = .ok (.imul, 1) := dz_at dqX10_pupil_p155 6 rfl
theorem dX10_pupil_139 : decode cX10_pupil 139 = .ok (.iadd, 1) := dz_at dqX10_pupil_p155 7 rfl
theorem dX10_pupil_140 : decode cX10_pupil 140 = .ok (.goto 18, 3) := dz_at dqX10_pupil_p155 8 rfl
theorem dX10_pupil_143 : decode cX10_pupil 143 = .ok (.iload_n 2, 1) := dz_at dqX10_pupil_p155 9 rfl
theorem dX10_pupil_144 : decode cX10_pupil 144 = .ok (.iconst 2, 1) := dz_at dqX10_pupil_p155 10 rfl
theorem dX10_pupil_145 : decode cX10_pupil 145 = .ok (.if_icmp .ne 8, 3) := dz_at dqX10_pupil_p155 11 rfl
theorem dX10_pupil_148 : decode cX10_pupil 148 = .ok (.iload 5, 2) := dz_at dqX10_pupil_p155 12 rfl
theorem dX10_pupil_150 : decode cX10_pupil 150 = .ok (.goto 8, 3) := dz_at dqX10_pupil_p155 13 rfl
set_option maxRecDepth 20000 in
theorem dqX10_pupil_p156 : dz_rn 153 (cX10_pupil.data.toList.drop 153) [(0, 4), (0, 1), (3, 1), (0, 12)] = some [(153, .aload_n 0, 1), (154, .iload_n 1, 1), (155, .invokevirtual 263, 3), (158, .ireturn, 1)] := by decide +kernel
theorem dX10_pupil_153 : decode cX10_pupil 153 = .ok (.aload_n 0, 1) := dz_at dqX10_pupil_p156 0 rfl
theorem dX10_pupil_154 : decode cX10_pupil 154 = .ok (.iload_n 1, 1) := dz_at dqX10_pupil_p156 1 rfl
theorem dX10_pupil_155 : decode cX10_pupil 155 = .ok (.invokevirtual 263, 3) := dz_at dqX10_pupil_p156 2 rfl
theorem dX10_pupil_158 : decode cX10_pupil 158 = .ok (.ireturn, 1) := dz_at dqX10_pupil_p156 3 rfl
set_option maxRecDepth 20000 in
theorem ggX10_figures_X10_in : GoodIn wsX10_figures wsX10_in := goodIn_r _ [5] rfl (by decide +kernel)
set_option maxRecDepth 20000 in
theorem gX10_figures_X10_in : GoodIn wsX10_figures (va_wsS RX10 93 yX10_in wsX10_in) := goodIn_app (goodIn_of _ (by decide +kernel)) ggX10_figures_X10_in
set_option maxRecDepth 20000 in
theorem dqX10_figures_p150 : dz_rn 0 (cX10_figures.data.toList.drop 0) [(0, 1), (0, 8), (2, 0), (3, 2), (4, 7), (0, 2), (0, 8), (2, 0), (3, 2), (4, 7), (0, 1), (0, 2), (4, 2), (2, 0)] = some [(0, .iload_n 1, 1), (1, .iconst 0, 1), (2, .bipush 9, 2), (4, .invokestatic 93, 3), (7, .ifCond .eq 18, 3), (10, .iload_n 2, 1), (11, .iconst 0, 1), (12, .bipush 9, 2), (14, .invokestatic 93, 3), (17, .ifCond .eq 8, 3), (20, .iload_n 1, 1), (21, .iload_n 2, 1), (22, .if_icmp .ne 6, 3), (25, .bipush (-2), 2)] := by decide +kernel
theorem dX10_figures_0 : decode cX10_figures 0 = .ok (.iload_n 1, 1) := dz_at dqX10_figures_p150 0 rfl
theorem dX10_figures_1 : decode cX10_figures 1 = .ok (.iconst 0, 1) := dz_at dqX10_figures_p150 1 rfl
theorem dX10_figures_2 : decode cX10_figures 2 = .ok (.bipush 9, 2) := dz_at dqX10_figures_p150 2 rfl
theorem dX10_figures_4 : decode cX10_figures 4 = .ok (.invokestatic 93, 3) := dz_at dqX10_figures_p150 3 rfl
theorem dX10_figures_7 : decode cX10_figures 7 = .ok (.ifCond .eq 18, 3) := dz_at dqX10_figures_p150 4 rfl
theorem dX10_figures_10 : decode cX10_figures 10 = .ok (.iload_n 2, 1) := dz_at dqX10_figures_p150 5 rfl
theorem dX10_figures_11 : decode cX10_figures 11 = .ok (.iconst 0, 1) := dz_at dqX10_figures_p150 6 rfl
theorem dX10_figures_12 : decode cX10_figures 12 = .ok (.bipush 9, 2) := dz_at dqX10_figures_p150 7 rfl
theorem dX10_figures_14 : decode cX10_figures 14 = .ok (.invokestatic 93, 3) := dz_at dqX10_figures_p150 8 rfl
theorem dX10_figures_17 : decode cX10_figures 17 = .ok (.ifCond .eq 8, 3) := dz_at dqX10_figures_p150 9 rfl
theorem dX10_figures_20 : decode cX10_figures 20 = .ok (.iload_n 1, 1) := dz_at dqX10_figures_p150 10 rfl
theorem dX10_figures_21 : decode cX10_figures 21 = .ok (.iload_n 2, 1) := dz_at dqX10_figures_p150 11 rfl
theorem dX10_figures_22 : decode cX10_figures 22 = .ok (.if_icmp .ne 6, 3) := dz_at dqX10_figures_p150 12 rfl
theorem dX10_figures_25 : decode cX10_figures 25 = .ok (.bipush (-2), 2) := dz_at dqX10_figures_p150 13 rfl
set_option maxRecDepth 20000 in
theorem dqX10_figures_p151 : dz_rn 27 (cX10_figures.data.toList.drop 27) [(0, 12), (0, 3), (0, 8), (2, 0), (3, 2), (4, 8), (2, 0), (0, 12), (0, 4), (3, 0), (2, 0), (0, 1), (0, 23), (0, 2)] = some [(27, .ireturn, 1), (28, .iload_n 3, 1), (29, .iconst 0, 1), (30, .bipush 9, 2), (32, .invokestatic 93, 3), (35, .ifCond .ne 6, 3), (38, .bipush (-3), 2), (40, .ireturn, 1), (41, .aload_n 0, 1), (42, .getfield 90, 3), (45, .bipush 10, 2), (47, .iload_n 1, 1), (48, .imul, 1), (49, .iload_n 2, 1)] := by decide +kernel
theorem dX10_figures_27 : decode cX10_figures 27 = .ok (.ireturn, 1) := dz_at dqX10_figures_p151 0 rfl
theorem dX10_figures_28 : decode cX10_figures 28 = .ok (.iload_n 3, 1) := dz_at dqX10_figures_p151 1 rfl
theorem dX10_figures_29 : decode cX10_figures 29 = .ok (.iconst 0, 1) := dz_at dqX10_figures_p151 2 rfl
theorem dX10_figures_30 : decode cX10_figures 30 = .ok (.bipush 9, 2) := dz_at dqX10_figures_p151 3 rfl
theorem dX10_figures_32 : decode cX10_figures 32 = .ok (.invokestatic 93, 3) := dz_at dqX10_figures_p151 4 rfl
theorem dX10_figures_35 : decode cX10_figures 35 = .ok (.ifCond .ne 6, 3) := dz_at dqX10_figures_p151 5 rfl
theorem dX10_figures_38 : decode cX10_figures 38 = .ok (.bipush (-3), 2) := dz_at dqX10_figures_p151 6 rfl
theorem dX10_figures_40 : decode cX10_figures 40 = .ok (.ireturn, 1) := dz_at dqX10_figures_p151 7 rfl
theorem dX10_figures_41 : decode cX10_figures 41 = .ok (.aload_n 0, 1) := dz_at dqX10_figures_p151 8 rfl
theorem dX10_figures_42 : decode cX10_figures 42 = .ok (.getfield 90, 3) := dz_at dqX10_figures_p151 9 rfl
theorem dX10_figures_45 : decode cX10_figures 45 = .ok (.bipush 10, 2) := dz_at dqX10_figures_p151 10 rfl
theorem dX10_figures_47 : decode cX10_figures 47 = .ok (.iload_n 1, 1) := dz_at dqX10_figures_p151 11 rfl
theorem dX10_figures_48 : decode cX10_figures 48 = .ok (.imul, 1) := dz_at dqX10_figures_p151 12 rfl
theorem dX10_figures_49 : decode cX10_figures 49 = .ok (.iload_n 2, 1) := dz_at dqX10_figures_p151 13 rfl
set_option maxRecDepth 20000 in
theorem dqX10_figures_p152 : dz_rn 50 (cX10_figures.data.toList.drop 50) [(0, 11), (0, 10), (1, 1), (0, 4), (3, 0), (2, 0), (0, 1), (0, 23), (0, 2), (0, 11), (0, 3), (0, 22), (0, 4), (3, 0)] = some [(50, .iadd, 1), (51, .iaload, 1), (52, .istore 4, 2), (54, .aload_n 0, 1), (55, .getfield 90, 3), (58, .bipush 10, 2), (60, .iload_n 1, 1), (61, .imul, 1), (62, .iload_n 2, 1), (63, .iadd, 1), (64, .iload_n 3, 1), (65, .iastore, 1), (66, .aload_n 0, 1), (67, .getfield 90, 3)] := by decide +kernel
theorem dX10_figures_50 : decode cX10_figures 50 = .ok (.iadd, 1) := dz_at dqX10_figures_p152 0 rfl
theorem dX10_figures_51 : decode cX10_figures 51 = .ok (.iaload, 1) := dz_at dqX10_figures_p152 1 rfl
theorem dX10_figures_52 : decode cX10_figures 52 = .ok (.istore 4, 2) := dz_at dqX10_figures_p152 2 rfl
theorem dX10_figures_54 : decode cX10_figures 54 = .ok (.aload_n 0, 1) := dz_at dqX10_figures_p152 3 rfl
theorem dX10_figures_55 : decode cX10_figures 55 = .ok (.getfield 90, 3) := dz_at dqX10_figures_p152 4 rfl
theorem dX10_figures_58 : decode cX10_figures 58 = .ok (.bipush 10, 2) := dz_at dqX10_figures_p152 5 rfl
theorem dX10_figures_60 : decode cX10_figures 60 = .ok (.iload_n 1, 1) := dz_at dqX10_figures_p152 6 rfl
theorem dX10_figures_61 : decode cX10_figures 61 = .ok (.imul, 1) := dz_at dqX10_figures_p152 7 rfl
theorem dX10_figures_62 : decode cX10_figures 62 = .ok (.iload_n 2, 1) := dz_at dqX10_figures_p152 8 rfl
theorem dX10_figures_63 : decode cX10_figures 63 = .ok (.iadd, 1) := dz_at dqX10_figures_p152 9 rfl
theorem dX10_figures_64 : decode cX10_figures 64 = .ok (.iload_n 3, 1) := dz_at dqX10_figures_p152 10 rfl
theorem dX10_figures_65 : decode cX10_figures 65 = .ok (.iastore, 1) := dz_at dqX10_figures_p152 11 rfl
theorem dX10_figures_66 : decode cX10_figures 66 = .ok (.aload_n 0, 1) := dz_at dqX10_figures_p152 12 rfl
theorem dX10_figures_67 : decode cX10_figures 67 = .ok (.getfield 90, 3) := dz_at dqX10_figures_p152 13 rfl
set_option maxRecDepth 20000 in
theorem dqX10_figures_p153 : dz_rn 70 (cX10_figures.data.toList.drop 70) [(2, 0), (0, 2), (0, 23), (0, 1), (0, 11), (0, 3), (0, 22), (1, 0), (0, 12)] = some [(70, .bipush 10, 2), (72, .iload_n 2, 1), (73, .imul, 1), (74, .iload_n 1, 1), (75, .iadd, 1), (76, .iload_n 3, 1), (77, .iastore, 1), (78, .iload 4, 2), (80, .ireturn, 1)] := by decide +kernel
theorem dX10_figures_70 : decode cX10_figures 70 = .ok (.bipush 10, 2) := dz_at dqX10_figures_p153 0 rfl
theorem dX10_figures_72 : decode cX10_figures 72 = .ok (.iload_n 2, 1) := dz_at dqX10_figures_p153 1 rfl
theorem dX10_figures_73 : decode cX10_figures 73 = .ok (.imul, 1) := dz_at dqX10_figures_p153 2 rfl
theorem dX10_figures_74 : decode cX10_figures 74 = .ok (.iload_n 1, 1) := dz_at dqX10_figures_p153 3 rfl
theorem dX10_figures_75 : decode cX10_figures 75 = .ok (.iadd, 1) := dz_at dqX10_figures_p153 4 rfl
theorem dX10_figures_76 : decode cX10_figures 76 = .ok (.iload_n 3, 1) := dz_at dqX10_figures_p153 5 rfl
theorem dX10_figures_77 : decode cX10_figures 77 = .ok (.iastore, 1) := dz_at dqX10_figures_p153 6 rfl
theorem dX10_figures_78 : decode cX10_figures 78 = .ok (.iload 4, 2) := dz_at dqX10_figures_p153 7 rfl
theorem dX10_figures_80 : decode cX10_figures 80 = .ok (.ireturn, 1) := dz_at dqX10_figures_p153 8 rfl
set_option maxRecDepth 20000 in
theorem ggX10_enough_X10_in : GoodIn wsX10_enough wsX10_in := goodIn_r _ [4] rfl (by decide +kernel)
set_option maxRecDepth 20000 in
theorem gX10_enough_X10_in : GoodIn wsX10_enough (va_wsS RX10 93 yX10_in wsX10_in) := goodIn_app (goodIn_of _ (by decide +kernel)) ggX10_enough_X10_in
set_option maxRecDepth 20000 in
theorem ggX10_enough_X10_doorsTo : GoodIn wsX10_enough wsX10_doorsTo := goodIn_r _ [8, 9, 10, 11, 12, 19, 20, 21, 22, 23, 24, 25, 26, 27, 28, 29, 30, 31, 32, 33, 34, 35, 36, 37, 38, 39, 40, 41, 42, 43, 44, 45, 46, 47, 48, 49, 50, 51, 52, 53, 54, 55, 56, 57] rfl (by decide +kernel)
set_option maxRecDepth 20000 in
theorem gX10_enough_X10_doorsTo : GoodIn wsX10_enough (wsV RX10 108 RX10 yX10_doorsTo wsX10_doorsTo) := goodIn_app (goodIn_of _ (by decide +kernel)) ggX10_enough_X10_doorsTo
set_option maxRecDepth 20000 in
theorem ggX10_enough_X10_lastOf : GoodIn wsX10_enough wsX10_lastOf := goodIn_r _ [16, 17, 18, 19, 20, 21, 22, 23, 24, 25, 26, 27, 28, 29, 30, 31, 32, 33, 34, 35, 36, 37, 38, 39, 40, 41, 42, 43, 44, 45, 46, 47, 48, 49, 50, 51, 52, 53, 54, 55, 56, 57] rfl (by decide +kernel)
set_option maxRecDepth 20000 in
theorem gX10_enough_X10_lastOf : GoodIn wsX10_enough (wsV RX10 216 RX10 yX10_lastOf wsX10_lastOf) := goodIn_app (goodIn_of _ (by decide +kernel)) ggX10_enough_X10_lastOf
set_option maxRecDepth 20000 in
theorem dqX10_enough_p150 : dz_rn 0 (cX10_enough.data.toList.drop 0) [(0, 1), (0, 8), (2, 0), (3, 2), (4, 8), (2, 0), (0, 12), (0, 8), (0, 20), (0, 8), (0, 21), (0, 8), (1, 1), (1, 0)] = some [(0, .iload_n 1, 1), (1, .iconst 0, 1), (2, .bipush 48, 2), (4, .invokestatic 93, 3), (7, .ifCond .ne 6, 3), (10, .bipush (-3), 2), (12, .ireturn, 1), (13, .iconst 0, 1), (14, .istore_n 2, 1), (15, .iconst 0, 1), (16, .istore_n 3, 1), (17, .iconst 0, 1), (18, .istore 4, 2), (20, .iload 4, 2)] := by decide +kernel
theorem dX10_enough_0 : decode cX10_enough 0 = .ok (.iload_n 1, 1) := dz_at dqX10_enough_p150 0 rfl
theorem dX10_enough_1 : decode cX10_enough 1 = .ok (.iconst 0, 1) := dz_at dqX10_enough_p150 1 rfl
theorem dX10_enough_2 : decode cX10_enough 2 = .ok (.bipush 48, 2) := dz_at dqX10_enough_p150 2 rfl
theorem dX10_enough_4 : decode cX10_enough 4 = .ok (.invokestatic 93, 3) := dz_at dqX10_enough_p150 3 rfl
theorem dX10_enough_7 : decode cX10_enough 7 = .ok (.ifCond .ne 6, 3) := dz_at dqX10_enough_p150 4 rfl
theorem dX10_enough_10 : decode cX10_enough 10 = .ok (.bipush (-3), 2) := dz_at dqX10_enough_p150 5 rfl
theorem dX10_enough_12 : decode cX10_enough 12 = .ok (.ireturn, 1) := dz_at dqX10_enough_p150 6 rfl
theorem dX10_enough_13 : decode cX10_enough 13 = .ok (.iconst 0, 1) := dz_at dqX10_enough_p150 7 rfl
theorem dX10_enough_14 : decode cX10_enough 14 = .ok (.istore_n 2, 1) := dz_at dqX10_enough_p150 8 rfl
theorem dX10_enough_15 : decode cX10_enough 15 = .ok (.iconst 0, 1) := dz_at dqX10_enough_p150 9 rfl
theorem dX10_enough_16 : decode cX10_enough 16 = .ok (.istore_n 3, 1) := dz_at dqX10_enough_p150 10 rfl
theorem dX10_enough_17 : decode cX10_enough 17 = .ok (.iconst 0, 1) := dz_at dqX10_enough_p150 11 rfl
theorem dX10_enough_18 : decode cX10_enough 18 = .ok (.istore 4, 2) := dz_at dqX10_enough_p150 12 rfl
theorem dX10_enough_20 : decode cX10_enough 20 = .ok (.iload 4, 2) := dz_at dqX10_enough_p150 13 rfl
set_option maxRecDepth 20000 in
theorem dqX10_enough_p151 : dz_rn 22 (cX10_enough.data.toList.drop 22) [(2, 0), (4, 4), (0, 2), (0, 1), (4, 4), (0, 8), (1, 1), (1, 0), (2, 0), (4, 4), (0, 2), (0, 1), (4, 4), (0, 4)] = some [(22, .bipush 8, 2), (24, .if_icmp .ge 78, 3), (27, .iload_n 2, 1), (28, .iload_n 1, 1), (29, .if_icmp .ge 73, 3), (32, .iconst 0, 1), (33, .istore 5, 2), (35, .iload 5, 2), (37, .bipush 8, 2), (39, .if_icmp .ge 57, 3), (42, .iload_n 2, 1), (43, .iload_n 1, 1), (44, .if_icmp .ge 52, 3), (47, .aload_n 0, 1)] := by decide +kernel
theorem dX10_enough_22 : decode cX10_enough 22 = .ok (.bipush 8, 2) := dz_at dqX10_enough_p151 0 rfl
theorem dX10_enough_24 : decode cX10_enough 24 = .ok (.if_icmp .ge 78, 3) := dz_at dqX10_enough_p151 1 rfl
theorem dX10_enough_27 : decode cX10_enough 27 = .ok (.iload_n 2, 1) := dz_at dqX10_enough_p151 2 rfl
theorem dX10_enough_28 : decode cX10_enough 28 = .ok (.iload_n 1, 1) := dz_at dqX10_enough_p151 3 rfl
theorem dX10_enough_29 : decode cX10_enough 29 = .ok (.if_icmp .ge 73, 3) := dz_at dqX10_enough_p151 4 rfl
theorem dX10_enough_32 : decode cX10_enough 32 = .ok (.iconst 0, 1) := dz_at dqX10_enough_p151 5 rfl
theorem dX10_enough_33 : decode cX10_enough 33 = .ok (.istore 5, 2) := dz_at dqX10_enough_p151 6 rfl
theorem dX10_enough_35 : decode cX10_enough 35 = .ok (.iload 5, 2) := dz_at dqX10_enough_p151 7 rfl
theorem dX10_enough_37 : decode cX10_enough 37 = .ok (.bipush 8, 2) := dz_at dqX10_enough_p151 8 rfl
theorem dX10_enough_39 : decode cX10_enough 39 = .ok (.if_icmp .ge 57, 3) := dz_at dqX10_enough_p151 9 rfl
theorem dX10_enough_42 : decode cX10_enough 42 = .ok (.iload_n 2, 1) := dz_at dqX10_enough_p151 10 rfl
theorem dX10_enough_43 : decode cX10_enough 43 = .ok (.iload_n 1, 1) := dz_at dqX10_enough_p151 11 rfl
theorem dX10_enough_44 : decode cX10_enough 44 = .ok (.if_icmp .ge 52, 3) := dz_at dqX10_enough_p151 12 rfl
theorem dX10_enough_47 : decode cX10_enough 47 = .ok (.aload_n 0, 1) := dz_at dqX10_enough_p151 13 rfl
set_option maxRecDepth 20000 in
theorem dqX10_enough_p152 : dz_rn 48 (cX10_enough.data.toList.drop 48) [(0, 8), (1, 0), (3, 1), (1, 0), (4, 2), (0, 4), (0, 8), (1, 0), (2, 0), (3, 1), (1, 1), (0, 2), (1, 0), (2, 0)] = some [(48, .iconst 0, 1), (49, .iload 5, 2), (51, .invokevirtual 108, 3), (54, .iload 4, 2), (56, .if_icmp .ne 34, 3), (59, .aload_n 0, 1), (60, .iconst 0, 1), (61, .iload 5, 2), (63, .bipush 6, 2), (65, .invokevirtual 216, 3), (68, .istore 6, 2), (70, .iload_n 2, 1), (71, .iload 6, 2), (73, .bipush 6, 2)] := by decide +kernel
theorem dX10_enough_48 : decode cX10_enough 48 = .ok (.iconst 0, 1) := dz_at dqX10_enough_p152 0 rfl
theorem dX10_enough_49 : decode cX10_enough 49 = .ok (.iload 5, 2) := dz_at dqX10_enough_p152 1 rfl
theorem dX10_enough_51 : decode cX10_enough 51 = .ok (.invokevirtual 108, 3) := dz_at dqX10_enough_p152 2 rfl
theorem dX10_enough_54 : decode cX10_enough 54 = .ok (.iload 4, 2) := dz_at dqX10_enough_p152 3 rfl
theorem dX10_enough_56 : decode cX10_enough 56 = .ok (.if_icmp .ne 34, 3) := dz_at dqX10_enough_p152 4 rfl
theorem dX10_enough_59 : decode cX10_enough 59 = .ok (.aload_n 0, 1) := dz_at dqX10_enough_p152 5 rfl
theorem dX10_enough_60 : decode cX10_enough 60 = .ok (.iconst 0, 1) := dz_at dqX10_enough_p152 6 rfl
theorem dX10_enough_61 : decode cX10_enough 61 = .ok (.iload 5, 2) := dz_at dqX10_enough_p152 7 rfl
theorem dX10_enough_63 : decode cX10_enough 63 = .ok (.bipush 6, 2) := dz_at dqX10_enough_p152 8 rfl
theorem dX10_enough_65 : decode cX10_enough 65 = .ok (.invokevirtual 216, 3) := dz_at dqX10_enough_p152 9 rfl
theorem dX10_enough_68 : decode cX10_enough 68 = .ok (.istore 6, 2) := dz_at dqX10_enough_p152 10 rfl
theorem dX10_enough_70 : decode cX10_enough 70 = .ok (.iload_n 2, 1) := dz_at dqX10_enough_p152 11 rfl
theorem dX10_enough_71 : decode cX10_enough 71 = .ok (.iload 6, 2) := dz_at dqX10_enough_p152 12 rfl
theorem dX10_enough_73 : decode cX10_enough 73 = .ok (.bipush 6, 2) := dz_at dqX10_enough_p152 13 rfl
set_option maxRecDepth 20000 in
theorem dqX10_enough_p153 : dz_rn 75 (cX10_enough.data.toList.drop 75) [(4, 6), (2, 0), (4, 0), (1, 0), (0, 11), (0, 20), (5, 0), (5, 0), (4, 0), (5, 0), (4, 0), (0, 2), (0, 1), (4, 4)] = some [(75, .if_icmp .le 8, 3), (78, .bipush 6, 2), (80, .goto 5, 3), (83, .iload 6, 2), (85, .iadd, 1), (86, .istore_n 2, 1), (87, .iinc 3 1, 3), (90, .iinc 5 1, 3), (93, .goto (-58), 3), (96, .iinc 4 1, 3), (99, .goto (-79), 3), (102, .iload_n 2, 1), (103, .iload_n 1, 1), (104, .if_icmp .ge 7, 3)] := by decide +kernel
theorem dX10_enough_75 : decode cX10_enough 75 = .ok (.if_icmp .le 8, 3) := dz_at dqX10_enough_p153 0 rfl
theorem dX10_enough_78 : decode cX10_enough 78 = .ok (.bipush 6, 2) := dz_at dqX10_enough_p153 1 rfl
theorem dX10_enough_80 : decode cX10_enough 80 = .ok (.goto 5, 3) := dz_at dqX10_enough_p153 2 rfl
theorem dX10_enough_83 : decode cX10_enough 83 = .ok (.iload 6, 2) := dz_at dqX10_enough_p153 3 rfl
theorem dX10_enough_85 : decode cX10_enough 85 = .ok (.iadd, 1) := dz_at dqX10_enough_p153 4 rfl
theorem dX10_enough_86 : decode cX10_enough 86 = .ok (.istore_n 2, 1) := dz_at dqX10_enough_p153 5 rfl
theorem dX10_enough_87 : decode cX10_enough 87 = .ok (.iinc 3 1, 3) := dz_at dqX10_enough_p153 6 rfl
theorem dX10_enough_90 : decode cX10_enough 90 = .ok (.iinc 5 1, 3) := dz_at dqX10_enough_p153 7 rfl
theorem dX10_enough_93 : decode cX10_enough 93 = .ok (.goto (-58), 3) := dz_at dqX10_enough_p153 8 rfl
theorem dX10_enough_96 : decode cX10_enough 96 = .ok (.iinc 4 1, 3) := dz_at dqX10_enough_p153 9 rfl
theorem dX10_enough_99 : decode cX10_enough 99 = .ok (.goto (-79), 3) := dz_at dqX10_enough_p153 10 rfl
theorem dX10_enough_102 : decode cX10_enough 102 = .ok (.iload_n 2, 1) := dz_at dqX10_enough_p153 11 rfl
theorem dX10_enough_103 : decode cX10_enough 103 = .ok (.iload_n 1, 1) := dz_at dqX10_enough_p153 12 rfl
theorem dX10_enough_104 : decode cX10_enough 104 = .ok (.if_icmp .ge 7, 3) := dz_at dqX10_enough_p153 13 rfl
set_option maxRecDepth 20000 in
theorem dqX10_enough_p154 : dz_rn 107 (cX10_enough.data.toList.drop 107) [(0, 13), (4, 0), (0, 3), (0, 12)] = some [(107, .iconst (-1), 1), (108, .goto 4, 3), (111, .iload_n 3, 1), (112, .ireturn, 1)] := by decide +kernel
theorem dX10_enough_107 : decode cX10_enough 107 = .ok (.iconst (-1), 1) := dz_at dqX10_enough_p154 0 rfl
theorem dX10_enough_108 : decode cX10_enough 108 = .ok (.goto 4, 3) := dz_at dqX10_enough_p154 1 rfl
theorem dX10_enough_111 : decode cX10_enough 111 = .ok (.iload_n 3, 1) := dz_at dqX10_enough_p154 2 rfl
theorem dX10_enough_112 : decode cX10_enough 112 = .ok (.ireturn, 1) := dz_at dqX10_enough_p154 3 rfl
set_option maxRecDepth 20000 in
theorem ggX10_count_X10_standIn : GoodIn wsX10_count wsX10_standIn := goodIn_r _ [12, 4, 13, 14, 15, 16, 17, 18, 19, 20, 21, 22, 23, 24, 25, 26, 27, 28, 29, 30, 31, 32, 33, 34, 35, 36, 37, 38, 39, 40, 41, 42, 43, 44, 45, 46, 47, 48, 49, 50, 51] rfl (by decide +kernel)
set_option maxRecDepth 20000 in
theorem gX10_count_X10_standIn : GoodIn wsX10_count (wsV RX10 213 RX10 yX10_standIn wsX10_standIn) := goodIn_app (goodIn_of _ (by decide +kernel)) ggX10_count_X10_standIn
set_option maxRecDepth 20000 in
theorem dqX10_count_p150 : dz_rn 0 (cX10_count.data.toList.drop 0) [(0, 8), (0, 20), (0, 1)] = some [(0, .iconst 0, 1), (1, .istore_n 2, 1), (2, .iload_n 1, 1)] := by decide +kernel
theorem dX10_count_0 : decode cX10_count 0 = .ok (.iconst 0, 1) := dz_at dqX10_count_p150 0 rfl
theorem dX10_count_1 : decode cX10_count 1 = .ok (.istore_n 2, 1) := dz_at dqX10_count_p150 1 rfl
theorem dX10_count_2 : decode cX10_count 2 = .ok (.iload_n 1, 1) := dz_at dqX10_count_p150 2 rfl
theorem dX10_count_3 : decode cX10_count 3 = .ok (.tableswitch 158 0 6 #[41, 46, 51, 75, 109, 148, 153], 41) := by decide +kernel
set_option maxRecDepth 20000 in
theorem dqX10_count_p151 : dz_rn 44 (cX10_count.data.toList.drop 44) [(0, 4), (3, 0), (0, 12), (0, 4), (3, 0), (0, 12), (0, 8), (0, 21), (0, 3), (2, 0), (4, 4), (0, 2), (0, 4), (0, 3)] = some [(44, .aload_n 0, 1), (45, .getfield 125, 3), (48, .ireturn, 1), (49, .aload_n 0, 1), (50, .getfield 97, 3), (53, .ireturn, 1), (54, .iconst 0, 1), (55, .istore_n 3, 1), (56, .iload_n 3, 1), (57, .bipush 8, 2), (59, .if_icmp .ge 17, 3), (62, .iload_n 2, 1), (63, .aload_n 0, 1), (64, .iload_n 3, 1)] := by decide +kernel
theorem dX10_count_44 : decode cX10_count 44 = .ok (.aload_n 0, 1) := dz_at dqX10_count_p151 0 rfl
theorem dX10_count_45 : decode cX10_count 45 = .ok (.getfield 125, 3) := dz_at dqX10_count_p151 1 rfl
theorem dX10_count_48 : decode cX10_count 48 = .ok (.ireturn, 1) := dz_at dqX10_count_p151 2 rfl
theorem dX10_count_49 : decode cX10_count 49 = .ok (.aload_n 0, 1) := dz_at dqX10_count_p151 3 rfl
theorem dX10_count_50 : decode cX10_count 50 = .ok (.getfield 97, 3) := dz_at dqX10_count_p151 4 rfl
theorem dX10_count_53 : decode cX10_count 53 = .ok (.ireturn, 1) := dz_at dqX10_count_p151 5 rfl
theorem dX10_count_54 : decode cX10_count 54 = .ok (.iconst 0, 1) := dz_at dqX10_count_p151 6 rfl
theorem dX10_count_55 : decode cX10_count 55 = .ok (.istore_n 3, 1) := dz_at dqX10_count_p151 7 rfl
theorem dX10_count_56 : decode cX10_count 56 = .ok (.iload_n 3, 1) := dz_at dqX10_count_p151 8 rfl
theorem dX10_count_57 : decode cX10_count 57 = .ok (.bipush 8, 2) := dz_at dqX10_count_p151 9 rfl
theorem dX10_count_59 : decode cX10_count 59 = .ok (.if_icmp .ge 17, 3) := dz_at dqX10_count_p151 10 rfl
theorem dX10_count_62 : decode cX10_count 62 = .ok (.iload_n 2, 1) := dz_at dqX10_count_p151 11 rfl
theorem dX10_count_63 : decode cX10_count 63 = .ok (.aload_n 0, 1) := dz_at dqX10_count_p151 12 rfl
theorem dX10_count_64 : decode cX10_count 64 = .ok (.iload_n 3, 1) := dz_at dqX10_count_p151 13 rfl
set_option maxRecDepth 20000 in
theorem dqX10_count_p152 : dz_rn 65 (cX10_count.data.toList.drop 65) [(3, 1), (0, 11), (0, 20), (5, 0), (4, 0), (0, 2), (0, 12), (0, 8), (0, 21), (0, 3), (2, 0), (4, 4), (0, 2), (0, 4)] = some [(65, .invokevirtual 213, 3), (68, .iadd, 1), (69, .istore_n 2, 1), (70, .iinc 3 1, 3), (73, .goto (-17), 3), (76, .iload_n 2, 1), (77, .ireturn, 1), (78, .iconst 0, 1), (79, .istore_n 3, 1), (80, .iload_n 3, 1), (81, .bipush 48, 2), (83, .if_icmp .ge 27, 3), (86, .iload_n 2, 1), (87, .aload_n 0, 1)] := by decide +kernel
theorem dX10_count_65 : decode cX10_count 65 = .ok (.invokevirtual 213, 3) := dz_at dqX10_count_p152 0 rfl
theorem dX10_count_68 : decode cX10_count 68 = .ok (.iadd, 1) := dz_at dqX10_count_p152 1 rfl
theorem dX10_count_69 : decode cX10_count 69 = .ok (.istore_n 2, 1) := dz_at dqX10_count_p152 2 rfl
theorem dX10_count_70 : decode cX10_count 70 = .ok (.iinc 3 1, 3) := dz_at dqX10_count_p152 3 rfl
theorem dX10_count_73 : decode cX10_count 73 = .ok (.goto (-17), 3) := dz_at dqX10_count_p152 4 rfl
theorem dX10_count_76 : decode cX10_count 76 = .ok (.iload_n 2, 1) := dz_at dqX10_count_p152 5 rfl
theorem dX10_count_77 : decode cX10_count 77 = .ok (.ireturn, 1) := dz_at dqX10_count_p152 6 rfl
theorem dX10_count_78 : decode cX10_count 78 = .ok (.iconst 0, 1) := dz_at dqX10_count_p152 7 rfl
theorem dX10_count_79 : decode cX10_count 79 = .ok (.istore_n 3, 1) := dz_at dqX10_count_p152 8 rfl
theorem dX10_count_80 : decode cX10_count 80 = .ok (.iload_n 3, 1) := dz_at dqX10_count_p152 9 rfl
theorem dX10_count_81 : decode cX10_count 81 = .ok (.bipush 48, 2) := dz_at dqX10_count_p152 10 rfl
theorem dX10_count_83 : decode cX10_count 83 = .ok (.if_icmp .ge 27, 3) := dz_at dqX10_count_p152 11 rfl
theorem dX10_count_86 : decode cX10_count 86 = .ok (.iload_n 2, 1) := dz_at dqX10_count_p152 12 rfl
theorem dX10_count_87 : decode cX10_count 87 = .ok (.aload_n 0, 1) := dz_at dqX10_count_p152 13 rfl
set_option maxRecDepth 20000 in
theorem dqX10_count_p153 : dz_rn 88 (cX10_count.data.toList.drop 88) [(3, 0), (0, 3), (0, 10), (0, 13), (4, 2), (0, 8), (4, 0), (0, 9), (0, 11), (0, 20), (5, 0), (4, 0), (0, 2), (0, 12)] = some [(88, .getfield 38, 3), (91, .iload_n 3, 1), (92, .iaload, 1), (93, .iconst (-1), 1), (94, .if_icmp .ne 7, 3), (97, .iconst 0, 1), (98, .goto 4, 3), (101, .iconst 1, 1), (102, .iadd, 1), (103, .istore_n 2, 1), (104, .iinc 3 1, 3), (107, .goto (-27), 3), (110, .iload_n 2, 1), (111, .ireturn, 1)] := by decide +kernel
theorem dX10_count_88 : decode cX10_count 88 = .ok (.getfield 38, 3) := dz_at dqX10_count_p153 0 rfl
theorem dX10_count_91 : decode cX10_count 91 = .ok (.iload_n 3, 1) := dz_at dqX10_count_p153 1 rfl
theorem dX10_count_92 : decode cX10_count 92 = .ok (.iaload, 1) := dz_at dqX10_count_p153 2 rfl
theorem dX10_count_93 : decode cX10_count 93 = .ok (.iconst (-1), 1) := dz_at dqX10_count_p153 3 rfl
theorem dX10_count_94 : decode cX10_count 94 = .ok (.if_icmp .ne 7, 3) := dz_at dqX10_count_p153 4 rfl
theorem dX10_count_97 : decode cX10_count 97 = .ok (.iconst 0, 1) := dz_at dqX10_count_p153 5 rfl
theorem dX10_count_98 : decode cX10_count 98 = .ok (.goto 4, 3) := dz_at dqX10_count_p153 6 rfl
theorem dX10_count_101 : decode cX10_count 101 = .ok (.iconst 1, 1) := dz_at dqX10_count_p153 7 rfl
theorem dX10_count_102 : decode cX10_count 102 = .ok (.iadd, 1) := dz_at dqX10_count_p153 8 rfl
theorem dX10_count_103 : decode cX10_count 103 = .ok (.istore_n 2, 1) := dz_at dqX10_count_p153 9 rfl
theorem dX10_count_104 : decode cX10_count 104 = .ok (.iinc 3 1, 3) := dz_at dqX10_count_p153 10 rfl
theorem dX10_count_107 : decode cX10_count 107 = .ok (.goto (-27), 3) := dz_at dqX10_count_p153 11 rfl
theorem dX10_count_110 : decode cX10_count 110 = .ok (.iload_n 2, 1) := dz_at dqX10_count_p153 12 rfl
theorem dX10_count_111 : decode cX10_count 111 = .ok (.ireturn, 1) := dz_at dqX10_count_p153 13 rfl
set_option maxRecDepth 20000 in
theorem dqX10_count_p154 : dz_rn 112 (cX10_count.data.toList.drop 112) [(0, 8), (0, 21), (0, 3), (2, 0), (4, 4), (0, 2), (0, 4), (3, 0), (0, 3), (0, 10), (0, 13), (4, 2), (0, 8), (4, 0)] = some [(112, .iconst 0, 1), (113, .istore_n 3, 1), (114, .iload_n 3, 1), (115, .bipush 48, 2), (117, .if_icmp .ge 32, 3), (120, .iload_n 2, 1), (121, .aload_n 0, 1), (122, .getfield 32, 3), (125, .iload_n 3, 1), (126, .iaload, 1), (127, .iconst (-1), 1), (128, .if_icmp .ne 7, 3), (131, .iconst 0, 1), (132, .goto 9, 3)] := by decide +kernel
theorem dX10_count_112 : decode cX10_count 112 = .ok (.iconst 0, 1) := dz_at dqX10_count_p154 0 rfl
theorem dX10_count_113 : decode cX10_count 113 = .ok (.istore_n 3, 1) := dz_at dqX10_count_p154 1 rfl
theorem dX10_count_114 : decode cX10_count 114 = .ok (.iload_n 3, 1) := dz_at dqX10_count_p154 2 rfl
theorem dX10_count_115 : decode cX10_count 115 = .ok (.bipush 48, 2) := dz_at dqX10_count_p154 3 rfl
theorem dX10_count_117 : decode cX10_count 117 = .ok (.if_icmp .ge 32, 3) := dz_at dqX10_count_p154 4 rfl
theorem dX10_count_120 : decode cX10_count 120 = .ok (.iload_n 2, 1) := dz_at dqX10_count_p154 5 rfl
theorem dX10_count_121 : decode cX10_count 121 = .ok (.aload_n 0, 1) := dz_at dqX10_count_p154 6 rfl
theorem dX10_count_122 : decode cX10_count 122 = .ok (.getfield 32, 3) := dz_at dqX10_count_p154 7 rfl
theorem dX10_count_125 : decode cX10_count 125 = .ok (.iload_n 3, 1) := dz_at dqX10_count_p154 8 rfl
theorem dX10_count_126 : decode cX10_count 126 = .ok (.iaload, 1) := dz_at dqX10_count_p154 9 rfl
theorem dX10_count_127 : decode cX10_count 127 = .ok (.iconst (-1), 1) := dz_at dqX10_count_p154 10 rfl
theorem dX10_count_128 : decode cX10_count 128 = .ok (.if_icmp .ne 7, 3) := dz_at dqX10_count_p154 11 rfl
theorem dX10_count_131 : decode cX10_count 131 = .ok (.iconst 0, 1) := dz_at dqX10_count_p154 12 rfl
theorem dX10_count_132 : decode cX10_count 132 = .ok (.goto 9, 3) := dz_at dqX10_count_p154 13 rfl
set_option maxRecDepth 20000 in
theorem dqX10_count_p155 : dz_rn 135 (cX10_count.data.toList.drop 135) [(0, 4), (3, 0), (0, 3), (0, 10), (0, 11), (0, 20), (5, 0), (4, 0), (0, 2), (0, 12), (0, 4), (3, 0), (0, 12), (0, 4)] = some [(135, .aload_n 0, 1), (136, .getfield 35, 3), (139, .iload_n 3, 1), (140, .iaload, 1), (141, .iadd, 1), (142, .istore_n 2, 1), (143, .iinc 3 1, 3), (146, .goto (-32), 3), (149, .iload_n 2, 1), (150, .ireturn, 1), (151, .aload_n 0, 1), (152, .getfield 141, 3), (155, .ireturn, 1), (156, .aload_n 0, 1)] := by decide +kernel
theorem dX10_count_135 : decode cX10_count 135 = .ok (.aload_n 0, 1) := dz_at dqX10_count_p155 0 rfl
theorem dX10_count_136 : decode cX10_count 136 = .ok (.getfield 35, 3) := dz_at dqX10_count_p155 1 rfl
theorem dX10_count_139 : decode cX10_count 139 = .ok (.iload_n 3, 1) := dz_at dqX10_count_p155 2 rfl
theorem dX10_count_140 : decode cX10_count 140 = .ok (.iaload, 1) := dz_at dqX10_count_p155 3 rfl
theorem dX10_count_141 : decode cX10_count 141 = .ok (.iadd, 1) := dz_at dqX10_count_p155 4 rfl
theorem dX10_count_142 : decode cX10_count 142 = .ok (.istore_n 2, 1) := dz_at dqX10_count_p155 5 rfl
theorem dX10_count_143 : decode cX10_count 143 = .ok (.iinc 3 1, 3) := dz_at dqX10_count_p155 6 rfl
theorem dX10_count_146 : decode cX10_count 146 = .ok (.goto (-32), 3) := dz_at dqX10_count_p155 7 rfl
theorem dX10_count_149 : decode cX10_count 149 = .ok (.iload_n 2, 1) := dz_at dqX10_count_p155 8 rfl
theorem dX10_count_150 : decode cX10_count 150 = .ok (.ireturn, 1) := dz_at dqX10_count_p155 9 rfl
theorem dX10_count_151 : decode cX10_count 151 = .ok (.aload_n 0, 1) := dz_at dqX10_count_p155 10 rfl
theorem dX10_count_152 : decode cX10_count 152 = .ok (.getfield 141, 3) := dz_at dqX10_count_p155 11 rfl
theorem dX10_count_155 : decode cX10_count 155 = .ok (.ireturn, 1) := dz_at dqX10_count_p155 12 rfl
theorem dX10_count_156 : decode cX10_count 156 = .ok (.aload_n 0, 1) := dz_at dqX10_count_p155 13 rfl
set_option maxRecDepth 20000 in
theorem dqX10_count_p156 : dz_rn 157 (cX10_count.data.toList.drop 157) [(3, 0), (0, 12), (2, 0), (0, 12)] = some [(157, .getfield 210, 3), (160, .ireturn, 1), (161, .bipush (-3), 2), (163, .ireturn, 1)] := by decide +kernel
theorem dX10_count_157 : decode cX10_count 157 = .ok (.getfield 210, 3) := dz_at dqX10_count_p156 0 rfl
theorem dX10_count_160 : decode cX10_count 160 = .ok (.ireturn, 1) := dz_at dqX10_count_p156 1 rfl
theorem dX10_count_161 : decode cX10_count 161 = .ok (.bipush (-3), 2) := dz_at dqX10_count_p156 2 rfl
theorem dX10_count_163 : decode cX10_count 163 = .ok (.ireturn, 1) := dz_at dqX10_count_p156 3 rfl
set_option maxHeartbeats 4000000 in
set_option maxRecDepth 100000 in
theorem k_X10_figures (l : Launch) (dC : Nat → ClassId) (dI : Nat → Nat → Nat) (cI cZ cQ : ClassId) (b : Nat → Nat) (mday : Int32) (mdoo : Int32) (mdA : Nat → Int32) (mdB : Nat → Int32) (mfar : Nat → Int32) (mmar : Nat → Int32) (mtel : Int32) (mgai : Int32) (mfal : Nat → Int32) (mtop : Nat → Int32) (mstr : Nat → Int32) (mgho : Nat → Int32) (mfai : Nat → Int32) (mpto : Nat → Int32) (mwal : Nat → Int32) (mahd : Nat → Int32) (mahf : Nat → Int32) (mcho : Nat → Int32) (mbes : Nat → Int32) (mbyt : Int32) (mtxt : Nat → Int32) (mpos : Int32) (mtka : Int32) (mtok : Int64) (mdig : Int32) (mnum : Int32) (mfau : Int32) (mrdm : Int32) (mrea : Nat → Int32) (mlin : Int32) (mlne : Nat → Int32) (mthg : Nat → Int32) (mord : Nat → Int32) (mbor : Nat → Int32) (mbsm : Int32) (mans : Nat → Int32) (mand : Nat → Int32) (manr : Nat → Int32) (mali : Nat → Int32) (sz : Nat) (x : Int32) (y : Int32) (v : Int32) (r_mday : 0 ≤ mday.toInt ∧ mday.toInt ≤ 400) (r_mdoo : 0 ≤ mdoo.toInt ∧ mdoo.toInt ≤ 14) (r_mdA : rg 14 (0) (7) mdA) (r_mdB : rg 14 (0) (7) mdB) (r_mmar : rg 24 (0) (255) mmar) (r_mgai : 0 ≤ mgai.toInt ∧ mgai.toInt ≤ 100) (r_mfal : rg 11 (0) (30) mfal) (r_mtop : rg 48 (-1) (23) mtop) (r_mstr : rg 48 (0) (100) mstr) (r_mgho : rg 48 (-1) (23) mgho) (r_mfai : rg 48 (0) (100) mfai) (r_mahd : rg 240 (0) (100) mahd) (r_mahf : rg 240 (0) (100) mahf) (r_mcho : rg 5 (-1) (9) mcho) (r_mbyt : 0 ≤ mbyt.toInt ∧ mbyt.toInt ≤ 160) (r_mpos : 0 ≤ mpos.toInt ∧ mpos.toInt ≤ 160) (r_mrdm : 0 ≤ mrdm.toInt ∧ mrdm.toInt ≤ 10) (r_mlin : 0 ≤ mlin.toInt ∧ mlin.toInt ≤ 10) (r_mthg : rg 8 (0) (31) mthg) (r_mord : rg 8 (-1) (8) mord) (r_mans : rg 4 (0) (12) mans) : KW l yX10_figures wsX10_figures { frames := 1, cells := 0, slots := 0, locals := 22 } (dC, dI) (TY cI cZ cQ) (wMod cI cZ cQ b mday mdoo mdA mdB mfar mmar mtel mgai mfal mtop mstr mgho mfai mpto mwal mahd mahf mcho mbes mbyt mtxt mpos mtka mtok mdig mnum mfau mrdm mrea mlin mlne mthg mord mbor mbsm mans mand manr mali) [.ref (b 39), .int x, .int y, .int v] sz 0 0 (fun (r : Int32) (u : US) => (spFig mali x y v r (u.1 0))) (fun u : US => (wMod cI cZ cQ b mday mdoo mdA mdB mfar mmar mtel mgai mfal mtop mstr mgho mfai mpto mwal mahd mahf mcho mbes mbyt mtxt mpos mtka mtok mdig mnum mfau mrdm mrea mlin mlne mthg mord mbor mbsm mans mand manr (u.1 0))) := by
  refine Met.ofW (cc := cX10_figures) (maxL := 5) (ret := (some .int)) (by decide) rfl ?_
  intro p e s m args below meth c s₁ B hml hv
  obtain ⟨rfl, hsz, hP, hK, hD0, hN⟩ := hv
  have hx := B.exec
  have hb := B.bytes
  have hr := B.returns
  have hts := atoms_spec (ws := wsX10_figures) B.pre
  have hown : s.vm.findClass RX10 = some m.cls := findClass_of_methodNamed B.named
  have hlocks := B.notSynchronized
  have lf90 := hts (.fieldLink RX10 90 "PalaceOfRoomsModel" "alike" "[I") (List.mem_cons_of_mem _ (List.mem_append_left _ (List.mem_of_getElem? (i := 0) rfl)))
  have inX10 : ∀ w ∈ wsX100, w ∈ wsX10_figures := fun w h => List.mem_cons_of_mem _ (List.mem_append_right _ h)
  subst hsz
  have hD := hD0.self (sz := s.heap.size)
  generalize hAe : va_A (wMod cI cZ cQ b mday mdoo mdA mdB mfar mmar mtel mgai mfal mtop mstr mgho mfai mpto mwal mahd mahf mcho mbes mbyt mtxt mpos mtka mtok mdig mnum mfau mrdm mrea mlin mlne mthg mord mbor mbsm mans mand manr mali) s.heap.size = A at hD ⊢
  have hA : ∀ q : Nat, s.heap.size ≤ q → A q := fun q h => by rw [← hAe]; exact Or.inr h
  have hS : va_S A s.heap s.heap [] := va_S.rf
  have hl := lv_entry ([.ref (b 39), .int x, .int y, .int v]) (n := 5) (Nat.le_of_ble_eq_true rfl)
  rw [lg_entry_eq]
  generalize (lg_sl ([.ref (b 39), .int x, .int y, .int v]) ++ List.replicate (5 - (lg_sl ([.ref (b 39), .int x, .int y, .int v])).length) Slot.unset).toArray = ls at hl ⊢
  have hl : lv_has ls 5 [(0, .ref (b 39)), (1, .int x), (2, .int y), (3, .int v)] := hl
  refine lv_iload_n hx hb dX10_figures_0 rfl (lv_at hl 1 rfl) ?_
  refine lv_iconst (v := 0) hx hb dX10_figures_1 (by decide) ?_
  refine lv_bipush (v := 9) hx hb dX10_figures_2 (by decide) ?_
  refine rdS (As := [.int x, .int 0, .int 9]) (rest := []) ⟨hx, hb, hml, hown, hts⟩ (k_X10_in l dC dI cI cZ cQ x (0 : Int32) (9 : Int32)) (va_cwS 3 hts gX10_figures_X10_in rfl rfl rfl (by decide +kernel) ⟨Nat.le_of_ble_eq_true rfl, Nat.le_of_ble_eq_true rfl⟩) hP hK hN [] rfl rfl hl.1 rfl (Nat.le_of_ble_eq_true rfl) dX10_figures_4 ⟨Nat.le_of_ble_eq_true rfl, Nat.le_of_ble_eq_true rfl⟩ (fun r1 h2 => ?_)
  have h2 : ((((r1 = 1) ∧ ((0) ≤ x.toInt) ∧ (x.toInt ≤ (9))) ∨ ((r1 = 0) ∧ (x.toInt < (0) ∨ (9) < x.toInt)))) := h2
  rcases h2 with (⟨rfl, h2_a0, h2_a1⟩ | ⟨rfl, h2_a0⟩)
  · refine lv_if_eq (tgt := 25) hx hb dX10_figures_7 (by decide) (fun c9 => absurd c9 (by decide)) (fun _ => ?_)
    refine lv_iload_n hx hb dX10_figures_10 rfl (lv_at hl 2 rfl) ?_
    refine lv_iconst (v := 0) hx hb dX10_figures_11 (by decide) ?_
    refine lv_bipush (v := 9) hx hb dX10_figures_12 (by decide) ?_
    refine rdS (As := [.int y, .int 0, .int 9]) (rest := []) ⟨hx, hb, hml, hown, hts⟩ (k_X10_in l dC dI cI cZ cQ y (0 : Int32) (9 : Int32)) (va_cwS 3 hts gX10_figures_X10_in rfl rfl rfl (by decide +kernel) ⟨Nat.le_of_ble_eq_true rfl, Nat.le_of_ble_eq_true rfl⟩) hP hK hN [] rfl rfl hl.1 rfl (Nat.le_of_ble_eq_true rfl) dX10_figures_14 ⟨Nat.le_of_ble_eq_true rfl, Nat.le_of_ble_eq_true rfl⟩ (fun r3 h4 => ?_)
    have h4 : ((((r3 = 1) ∧ ((0) ≤ y.toInt) ∧ (y.toInt ≤ (9))) ∨ ((r3 = 0) ∧ (y.toInt < (0) ∨ (9) < y.toInt)))) := h4
    rcases h4 with (⟨rfl, h4_a0, h4_a1⟩ | ⟨rfl, h4_a0⟩)
    · refine lv_if_eq (tgt := 25) hx hb dX10_figures_17 (by decide) (fun c9 => absurd c9 (by decide)) (fun _ => ?_)
      refine lv_iload_n hx hb dX10_figures_20 rfl (lv_at hl 1 rfl) ?_
      refine lv_iload_n hx hb dX10_figures_21 rfl (lv_at hl 2 rfl) ?_
      refine lv_icmp_ne (tgt := 28) hx hb dX10_figures_22 (by decide) (fun c5 => ?_) (fun c5 => ?_)
      · have dc5 : x.toInt ≠ y.toInt := neC rfl rfl c5
        refine lv_iload_n hx hb dX10_figures_28 rfl (lv_at hl 3 rfl) ?_
        refine lv_iconst (v := 0) hx hb dX10_figures_29 (by decide) ?_
        refine lv_bipush (v := 9) hx hb dX10_figures_30 (by decide) ?_
        refine rdS (As := [.int v, .int 0, .int 9]) (rest := []) ⟨hx, hb, hml, hown, hts⟩ (k_X10_in l dC dI cI cZ cQ v (0 : Int32) (9 : Int32)) (va_cwS 3 hts gX10_figures_X10_in rfl rfl rfl (by decide +kernel) ⟨Nat.le_of_ble_eq_true rfl, Nat.le_of_ble_eq_true rfl⟩) hP hK hN [] rfl rfl hl.1 rfl (Nat.le_of_ble_eq_true rfl) dX10_figures_32 ⟨Nat.le_of_ble_eq_true rfl, Nat.le_of_ble_eq_true rfl⟩ (fun r6 h7 => ?_)
        have h7 : ((((r6 = 1) ∧ ((0) ≤ v.toInt) ∧ (v.toInt ≤ (9))) ∨ ((r6 = 0) ∧ (v.toInt < (0) ∨ (9) < v.toInt)))) := h7
        rcases h7 with (⟨rfl, h7_a0, h7_a1⟩ | ⟨rfl, h7_a0⟩)
        · refine lv_if_ne (tgt := 41) hx hb dX10_figures_35 (by decide) (fun _ => ?_) (fun c9 => absurd c9 (by decide))
          refine lv_aload_n hx hb dX10_figures_41 rfl (lv_at hl 0 rfl) ?_
          refine va_get (D := (dC, dI)) (ci := 10) (v := .ref (b 38)) (C := RX10) (T := TX10) (N := 39) hx hb hts inX10 hown hK hP 0 rfl rfl 38 (by decide) lf90 (fun _ h9 => h9) rfl dX10_figures_42 ?_
          refine lv_bipush (v := 10) hx hb dX10_figures_45 (by decide) ?_
          refine lv_iload_n hx hb dX10_figures_47 rfl (lv_at hl 1 rfl) ?_
          refine lv_imul hx hb dX10_figures_48 ?_
          have f8 : (10 * x).toInt = (10) * (x.toInt) := mulC (show (10 : Int32).toInt = 10 from rfl) rfl (by omega) (by omega)
          refine lv_iload_n hx hb dX10_figures_49 rfl (lv_at hl 2 rfl) ?_
          refine lv_iadd hx hb dX10_figures_50 ?_
          have f9 : ((10 * x) + y).toInt = ((10) * (x.toInt)) + (y.toInt) := addC f8 rfl (by omega) (by omega)
          have b10 : vp_in ((10 * x) + y) 100 := inC f9 (by omega) (by omega)
          refine va_iald hx hb hK hP 25 0 rfl rfl b10 dX10_figures_51 ?_
          refine lv_topi (fun x11 ex11 => ?_)
          have ix11 : x11.toInt = (mali ((10 * x) + y).toNatClampNeg).toInt := by rw [ex11]
          refine lv_istore (lv' := [(4, .int x11), (0, .ref (b 39)), (1, .int x), (2, .int y), (3, .int v)]) hx hb dX10_figures_52 hl (by decide) rfl (fun ls hl => ?_)
          refine lv_aload_n hx hb dX10_figures_54 rfl (lv_at hl 1 rfl) ?_
          refine va_get (D := (dC, dI)) (ci := 10) (v := .ref (b 38)) (C := RX10) (T := TX10) (N := 39) hx hb hts inX10 hown hK hP 0 rfl rfl 38 (by decide) lf90 (fun _ h9 => h9) rfl dX10_figures_55 ?_
          refine lv_bipush (v := 10) hx hb dX10_figures_58 (by decide) ?_
          refine lv_iload_n hx hb dX10_figures_60 rfl (lv_at hl 2 rfl) ?_
          refine lv_imul hx hb dX10_figures_61 ?_
          have f12 : (10 * x).toInt = (10) * (x.toInt) := mulC (show (10 : Int32).toInt = 10 from rfl) rfl (by omega) (by omega)
          refine lv_iload_n hx hb dX10_figures_62 rfl (lv_at hl 3 rfl) ?_
          refine lv_iadd hx hb dX10_figures_63 ?_
          have f13 : ((10 * x) + y).toInt = ((10) * (x.toInt)) + (y.toInt) := addC f12 rfl (by omega) (by omega)
          refine lv_iload_n hx hb dX10_figures_64 rfl (lv_at hl 4 rfl) ?_
          have b14 : vp_in ((10 * x) + y) 100 := inC f13 (by omega) (by omega)
          refine va_iast hx hb hK hP hD hS 25 0 rfl rfl b14 dX10_figures_65 (fun H locs hP hD hS => ?_)
          obtain ⟨mali_u15, emali_u15⟩ : ∃ f : Nat → Int32, f = upd mali ((10 * x) + y).toNatClampNeg v := ⟨_, rfl⟩
          have hP : va_P (dC, dI) vwCl (wMod cI cZ cQ b mday mdoo mdA mdB mfar mmar mtel mgai mfal mtop mstr mgho mfai mpto mwal mahd mahf mcho mbes mbyt mtxt mpos mtka mtok mdig mnum mfau mrdm mrea mlin mlne mthg mord mbor mbsm mans mand manr mali_u15) H := by rw [emali_u15]; exact hP
          have hD : va_D A (wMod cI cZ cQ b mday mdoo mdA mdB mfar mmar mtel mgai mfal mtop mstr mgho mfai mpto mwal mahd mahf mcho mbes mbyt mtxt mpos mtka mtok mdig mnum mfau mrdm mrea mlin mlne mthg mord mbor mbsm mans mand manr mali_u15) := by rw [emali_u15]; exact hD
          refine lv_aload_n hx hb dX10_figures_66 rfl (lv_at hl 1 rfl) ?_
          refine va_get (D := (dC, dI)) (ci := 10) (v := .ref (b 38)) (C := RX10) (T := TX10) (N := 39) hx hb hts inX10 hown hK hP 0 rfl rfl 38 (by decide) lf90 (fun _ h9 => h9) rfl dX10_figures_67 ?_
          refine lv_bipush (v := 10) hx hb dX10_figures_70 (by decide) ?_
          refine lv_iload_n hx hb dX10_figures_72 rfl (lv_at hl 3 rfl) ?_
          refine lv_imul hx hb dX10_figures_73 ?_
          have f16 : (10 * y).toInt = (10) * (y.toInt) := mulC (show (10 : Int32).toInt = 10 from rfl) rfl (by omega) (by omega)
          refine lv_iload_n hx hb dX10_figures_74 rfl (lv_at hl 2 rfl) ?_
          refine lv_iadd hx hb dX10_figures_75 ?_
          have f17 : ((10 * y) + x).toInt = ((10) * (y.toInt)) + (x.toInt) := addC f16 rfl (by omega) (by omega)
          refine lv_iload_n hx hb dX10_figures_76 rfl (lv_at hl 4 rfl) ?_
          have b18 : vp_in ((10 * y) + x) 100 := inC f17 (by omega) (by omega)
          refine va_iast hx hb hK hP hD hS 25 0 rfl rfl b18 dX10_figures_77 (fun H locs hP hD hS => ?_)
          obtain ⟨mali_u19, emali_u19⟩ : ∃ f : Nat → Int32, f = upd mali_u15 ((10 * y) + x).toNatClampNeg v := ⟨_, rfl⟩
          have hP : va_P (dC, dI) vwCl (wMod cI cZ cQ b mday mdoo mdA mdB mfar mmar mtel mgai mfal mtop mstr mgho mfai mpto mwal mahd mahf mcho mbes mbyt mtxt mpos mtka mtok mdig mnum mfau mrdm mrea mlin mlne mthg mord mbor mbsm mans mand manr mali_u19) H := by rw [emali_u19]; exact hP
          have hD : va_D A (wMod cI cZ cQ b mday mdoo mdA mdB mfar mmar mtel mgai mfal mtop mstr mgho mfai mpto mwal mahd mahf mcho mbes mbyt mtxt mpos mtka mtok mdig mnum mfau mrdm mrea mlin mlne mthg mord mbor mbsm mans mand manr mali_u19) := by rw [emali_u19]; exact hD
          refine lv_iload hx hb dX10_figures_78 (lv_at hl 0 rfl) ?_
          exact W.iret (v := x11) hx hb hr (fun tq ht hW => ⟨⟨x11, (uS [mali_u19] 0 (fun _ => 0)), rfl, (show spFig mali x y v x11 mali_u19 from by (unfold spFig; subst_vars; first | exact Or.inl ⟨by omega, rfl, rfl⟩ | exact Or.inr (Or.inl ⟨by omega, by omega, by omega, by omega, rfl, rfl⟩) | exact Or.inr (Or.inr ⟨by omega, by omega, by omega, by omega, by (rw [clC (x := 10 * x + y) (X := x.toInt * 10 + y.toInt) (by omega)]), by (rw [clC (x := 10 * x + y) (X := x.toInt * 10 + y.toInt) (by omega), clC (x := 10 * y + x) (X := y.toInt * 10 + x.toInt) (by omega)])⟩))), by rw [ht]; exact hP, hD⟩, hS.F ht⟩) hS.2.2 dX10_figures_80
        · refine lv_if_ne (tgt := 41) hx hb dX10_figures_35 (by decide) (fun c9 => absurd (by decide) c9) (fun _ => ?_)
          refine lv_bipush (v := (-3)) hx hb dX10_figures_38 (by decide) ?_
          exact W.iret (v := (-3)) hx hb hr (fun tq ht hW => ⟨⟨(-3), (uS [mali] 0 (fun _ => 0)), rfl, (show spFig mali x y v ((-3) : Int32) mali from by (try rw [show ((-3) : Int32).toInt = (-3) from (show ((-3) : Int32).toInt = (-3) from rfl)]); (unfold spFig; subst_vars; first | exact Or.inl ⟨by omega, rfl, rfl⟩ | exact Or.inr (Or.inl ⟨by omega, by omega, by omega, by omega, rfl, rfl⟩) | exact Or.inr (Or.inr ⟨by omega, by omega, by omega, by omega, by (rw [clC (x := 10 * x + y) (X := x.toInt * 10 + y.toInt) (by omega)]), by (rw [clC (x := 10 * x + y) (X := x.toInt * 10 + y.toInt) (by omega), clC (x := 10 * y + x) (X := y.toInt * 10 + x.toInt) (by omega)])⟩))), by rw [ht]; exact hP, hD⟩, hS.F ht⟩) hS.2.2 dX10_figures_40
      · have dc5 : x.toInt = y.toInt := eqC rfl rfl c5
        refine lv_bipush (v := (-2)) hx hb dX10_figures_25 (by decide) ?_
        exact W.iret (v := (-2)) hx hb hr (fun tq ht hW => ⟨⟨(-2), (uS [mali] 0 (fun _ => 0)), rfl, (show spFig mali x y v ((-2) : Int32) mali from by (try rw [show ((-2) : Int32).toInt = (-2) from (show ((-2) : Int32).toInt = (-2) from rfl)]); (unfold spFig; subst_vars; first | exact Or.inl ⟨by omega, rfl, rfl⟩ | exact Or.inr (Or.inl ⟨by omega, by omega, by omega, by omega, rfl, rfl⟩) | exact Or.inr (Or.inr ⟨by omega, by omega, by omega, by omega, by (rw [clC (x := 10 * x + y) (X := x.toInt * 10 + y.toInt) (by omega)]), by (rw [clC (x := 10 * x + y) (X := x.toInt * 10 + y.toInt) (by omega), clC (x := 10 * y + x) (X := y.toInt * 10 + x.toInt) (by omega)])⟩))), by rw [ht]; exact hP, hD⟩, hS.F ht⟩) hS.2.2 dX10_figures_27
    · refine lv_if_eq (tgt := 25) hx hb dX10_figures_17 (by decide) (fun _ => ?_) (fun c9 => absurd (by decide) c9)
      refine lv_bipush (v := (-2)) hx hb dX10_figures_25 (by decide) ?_
      exact W.iret (v := (-2)) hx hb hr (fun tq ht hW => ⟨⟨(-2), (uS [mali] 0 (fun _ => 0)), rfl, (show spFig mali x y v ((-2) : Int32) mali from by (try rw [show ((-2) : Int32).toInt = (-2) from (show ((-2) : Int32).toInt = (-2) from rfl)]); (unfold spFig; subst_vars; first | exact Or.inl ⟨by omega, rfl, rfl⟩ | exact Or.inr (Or.inl ⟨by omega, by omega, by omega, by omega, rfl, rfl⟩) | exact Or.inr (Or.inr ⟨by omega, by omega, by omega, by omega, by (rw [clC (x := 10 * x + y) (X := x.toInt * 10 + y.toInt) (by omega)]), by (rw [clC (x := 10 * x + y) (X := x.toInt * 10 + y.toInt) (by omega), clC (x := 10 * y + x) (X := y.toInt * 10 + x.toInt) (by omega)])⟩))), by rw [ht]; exact hP, hD⟩, hS.F ht⟩) hS.2.2 dX10_figures_27
  · refine lv_if_eq (tgt := 25) hx hb dX10_figures_7 (by decide) (fun _ => ?_) (fun c9 => absurd (by decide) c9)
    refine lv_bipush (v := (-2)) hx hb dX10_figures_25 (by decide) ?_
    exact W.iret (v := (-2)) hx hb hr (fun tq ht hW => ⟨⟨(-2), (uS [mali] 0 (fun _ => 0)), rfl, (show spFig mali x y v ((-2) : Int32) mali from by (try rw [show ((-2) : Int32).toInt = (-2) from (show ((-2) : Int32).toInt = (-2) from rfl)]); (unfold spFig; subst_vars; first | exact Or.inl ⟨by omega, rfl, rfl⟩ | exact Or.inr (Or.inl ⟨by omega, by omega, by omega, by omega, rfl, rfl⟩) | exact Or.inr (Or.inr ⟨by omega, by omega, by omega, by omega, by (rw [clC (x := 10 * x + y) (X := x.toInt * 10 + y.toInt) (by omega)]), by (rw [clC (x := 10 * x + y) (X := x.toInt * 10 + y.toInt) (by omega), clC (x := 10 * y + x) (X := y.toInt * 10 + x.toInt) (by omega)])⟩))), by rw [ht]; exact hP, hD⟩, hS.F ht⟩) hS.2.2 dX10_figures_27
end
section
theorem ka_lo {X c d : Int} (h1 : c ≤ X) (h2 : X ≠ c) (h3 : d = c + 1 := by rfl) : d ≤ X := by omega
theorem ka_hi {X c d : Int} (h1 : X ≤ c) (h2 : X ≠ c) (h3 : d = c - 1 := by rfl) : X ≤ d := by omega
theorem of_at {f : Nat → Int32} {T : Int} (h : ∀ j : Nat, (j : Int) < T → 0 ≤ (f j).toInt ∧ (f j).toInt < T) {y : Int32} {Y : Int} (hy : y.toInt = Y) (h0 : 0 ≤ Y) (h1 : Y < T) : 0 ≤ (f y.toNatClampNeg).toInt ∧ (f y.toNatClampNeg).toInt < T := h _ (by rw [clC hy]; omega)
theorem th_at {f : Nat → Int32} {T B : Int} (h : ∀ j : Nat, (j : Int) < T → (f j).toInt ≤ B) {y : Int32} {Y : Int} (hy : y.toInt = Y) (h0 : 0 ≤ Y) (h1 : Y < T) : (f y.toNatClampNeg).toInt ≤ B := h _ (by rw [clC hy]; omega)
theorem th_step {f g : Nat → Int32} {y v : Int32} {B Y Z : Int} (e : g = upd f y.toNatClampNeg v) (h : ∀ j : Nat, (j : Int) < Y → (f j).toInt ≤ B) (hy : y.toInt = Y) (h0 : 0 ≤ Y) (hz : Z = Y + 1) (hv : v.toInt ≤ B) : ∀ j : Nat, (j : Int) < Z → (g j).toInt ≤ B := by
  subst e
  intro j hj
  rw [clC hy]
  by_cases q : j = Y.toNat
  · subst q; rw [pk_us]; exact hv
  · rw [pk_un q]; exact h j (by omega)
theorem th_two {f g g' : Nat → Int32} {k1 k2 : Nat} {v w : Int32} {T B : Int} (e2 : g' = upd g k2 w) (e1 : g = upd f k1 v) (h : ∀ j : Nat, (j : Int) < T → (f j).toInt ≤ B) (hv : v.toInt ≤ B) (hw : w.toInt ≤ B) : ∀ j : Nat, (j : Int) < T → (g' j).toInt ≤ B := by
  subst e1; subst e2
  intro j hj
  by_cases q : j = k2
  · subst q; rw [pk_us]; exact hw
  · rw [pk_un q]
    by_cases q2 : j = k1
    · subst q2; rw [pk_us]; exact hv
    · rw [pk_un q2]; exact h j hj
theorem ord_at {T D : Int} {f : Nat → Int32} {y : Int32} (h : ordOK T D f) (hy : y.toInt = D) (h0 : 0 ≤ D) : -1 ≤ (f y.toNatClampNeg).toInt ∧ (f y.toNatClampNeg).toInt < T := by
  rw [clC hy]; exact (h D.toNat).1 (by omega)
theorem ok_init3 {T : Int} {f g : Nat → Int32} {z w : Int32} (e : g = upd f z.toNatClampNeg w) (hz : z.toInt = 0) (hw : w.toInt = -1) (hT : 1 ≤ T) : ordOK T 0 g := by
  subst e
  intro j
  rw [clC hz]
  refine ⟨fun q => ?_, fun q => absurd q (by omega)⟩
  have : j = (0 : Int).toNat := by omega
  subst this
  rw [pk_us]; omega
theorem ok_same3 {T D : Int} {f g : Nat → Int32} {y v : Int32} (e : g = upd f y.toNatClampNeg v) (h : ordOK T D f) (hy : y.toInt = D) (h0 : 0 ≤ D) (hv : v.toInt = (f y.toNatClampNeg).toInt + 1) (hn : v.toInt ≠ T) : ordOK T D g := by
  subst e; exact ok_same h hy h0 hv hn
theorem ok_down3 {T D D' : Int} {f g : Nat → Int32} {y v : Int32} (e : g = upd f y.toNatClampNeg v) (h : ordOK T D f) (hy : y.toInt = D) (h0 : 0 ≤ D) (eD : D' = D - 1) : ordOK T D' g := by
  subst e; subst eD; exact ok_down h hy h0
theorem ok_up3 {T D D' : Int} {f g g' : Nat → Int32} {y v z w : Int32} (e2 : g' = upd g z.toNatClampNeg w) (e1 : g = upd f y.toNatClampNeg v) (h : ordOK T D f) (hT : 0 ≤ T) (hy : y.toInt = D) (h0 : 0 ≤ D) (hv : v.toInt = (f y.toNatClampNeg).toInt + 1) (hn : v.toInt ≠ T) (hz : z.toInt = D + 1) (hw : w.toInt = -1) (eD : D' = D + 1) : ordOK T D' g' := by
  subst e1; subst e2; subst eD; exact ok_up h hT hy h0 hv hn hz hw
theorem ok_back3 {T D D' : Int} {f g g' : Nat → Int32} {y v z w : Int32} (e2 : g' = upd g z.toNatClampNeg w) (e1 : g = upd f y.toNatClampNeg v) (h : ordOK T D f) (hy : y.toInt = D) (h0 : 0 ≤ D) (hv : v.toInt = (f y.toNatClampNeg).toInt + 1) (hn : v.toInt ≠ T) (hz : z.toInt = D + 1) (eD : D' = D) : ordOK T D' g' := by
  subst eD
  have h1 := ok_same3 e1 h hy h0 hv hn
  subst e2
  intro j
  rw [clC hz]
  by_cases q : j = (D' + 1).toNat
  · exact ⟨fun q2 => absurd q2 (by omega), fun q2 => absurd q2 (by omega)⟩
  · rw [pk_un q]; exact h1 j
theorem ok_full3 {T D : Int} {f g : Nat → Int32} {y v : Int32} (e : g = upd f y.toNatClampNeg v) (h : ordOK T D f) (hy : y.toInt = D) (h0 : 0 ≤ D) (hv : v.toInt = (f y.toNatClampNeg).toInt + 1) (hn : v.toInt ≠ T) (hD : D = T - 1) : ∀ j : Nat, (j : Int) < T → 0 ≤ (g j).toInt ∧ (g j).toInt < T := by
  subst e
  intro j hj
  exact ok_full h hy h0 hv hn j (by omega)
theorem om_same3 {T D : Int} {B E : Nat} {f g : Nat → Int32} {y v : Int32} (e : g = upd f y.toNatClampNeg v) (hB : 1 ≤ B) (hy : y.toInt = D) (h0 : 0 ≤ D) (h1 : (f y.toNatClampNeg).toInt < T) (hv : v.toInt = (f y.toNatClampNeg).toInt + 1) : omM T B E g (D + 1).toNat < omM T B E f (D + 1).toNat := by
  subst e; exact om_same hB hy h0 h1 hv
theorem om_down3 {T D D' : Int} {B E : Nat} {f g : Nat → Int32} {y v : Int32} (e : g = upd f y.toNatClampNeg v) (hB : 1 ≤ B) (hy : y.toInt = D) (h0 : 0 ≤ D) (h1 : (f y.toNatClampNeg).toInt < T) (eD : D' = D - 1) : omM T B E g (D' + 1).toNat < omM T B E f (D + 1).toNat := by
  subst e; subst eD; exact om_down hB hy h0 h1
theorem om_up3 {T D D' : Int} {B E : Nat} {f g g' : Nat → Int32} {y v z w : Int32} (e2 : g' = upd g z.toNatClampNeg w) (e1 : g = upd f y.toNatClampNeg v) (hT : (T + 1).toNat + 1 ≤ B) (hy : y.toInt = D) (h0 : 0 ≤ D) (hE : D + 1 ≤ E) (h1 : (f y.toNatClampNeg).toInt < T) (hv : v.toInt = (f y.toNatClampNeg).toInt + 1) (hz : z.toInt = D + 1) (hw : w.toInt = -1) (eD : D' = D + 1) : omM T B E g' (D' + 1).toNat < omM T B E f (D + 1).toNat := by
  subst e1; subst e2; subst eD; exact om_up hT hy h0 hE h1 hv hz hw
theorem om_back3 {T D D' : Int} {B E : Nat} {f g g' : Nat → Int32} {y v z w : Int32} (e2 : g' = upd g z.toNatClampNeg w) (e1 : g = upd f y.toNatClampNeg v) (hB : 1 ≤ B) (hy : y.toInt = D) (h0 : 0 ≤ D) (h1 : (f y.toNatClampNeg).toInt < T) (hv : v.toInt = (f y.toNatClampNeg).toInt + 1) (hz : z.toInt = D + 1) (eD : D' = D) : omM T B E g' (D' + 1).toNat < omM T B E f (D + 1).toNat := by
  subst eD
  have h2 := om_same3 (E := E) e1 hB hy h0 h1 hv
  subst e2
  rw [clC hz, omM_upd (Nat.le_refl _)]
  exact h2
end
