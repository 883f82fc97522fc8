set_option maxRecDepth 20000 in
theorem dqX7_init_p210 : dz_rn 0 (cX7_init.data.toList.drop 0) [(0, 4), (3, 5), (0, 4), (4, 13)] = some [(0, .aload_n 0, 1), (1, .invokespecial 3, 3), (4, .aload_n 0, 1), (5, .sipush 160, 3)] := by decide +kernel
theorem dX7_init_0 : decode cX7_init 0 = .ok (.aload_n 0, 1) := dz_at dqX7_init_p210 0 rfl
theorem dX7_init_1 : decode cX7_init 1 = .ok (.invokespecial 3, 3) := dz_at dqX7_init_p210 1 rfl
theorem dX7_init_4 : decode cX7_init 4 = .ok (.aload_n 0, 1) := dz_at dqX7_init_p210 2 rfl
theorem dX7_init_5 : decode cX7_init 5 = .ok (.sipush 160, 3) := dz_at dqX7_init_p210 3 rfl
theorem dX7_init_8 : decode cX7_init 8 = .ok (.newarray .int, 2) := by decide +kernel
set_option maxRecDepth 20000 in
theorem dqX7_init_p211 : dz_rn 10 (cX7_init.data.toList.drop 10) [(3, 3), (0, 25)] = some [(10, .putfield 9, 3), (13, .return_, 1)] := by decide +kernel
theorem dX7_init_10 : decode cX7_init 10 = .ok (.putfield 9, 3) := dz_at dqX7_init_p211 0 rfl
theorem dX7_init_13 : decode cX7_init 13 = .ok (.return_, 1) := dz_at dqX7_init_p211 1 rfl
set_option maxRecDepth 20000 in
theorem dqX7_append_p210 : dz_rn 0 (cX7_append.data.toList.drop 0) [(0, 8), (1, 1), (1, 0), (0, 3), (4, 4), (0, 4), (3, 0), (4, 13), (4, 4), (0, 4), (3, 0), (0, 4), (3, 0), (0, 35)] = some [(0, .iconst 0, 1), (1, .istore 4, 2), (3, .iload 4, 2), (5, .iload_n 3, 1), (6, .if_icmp .ge 50, 3), (9, .aload_n 0, 1), (10, .getfield 15, 3), (13, .sipush 160, 3), (16, .if_icmp .ge 40, 3), (19, .aload_n 0, 1), (20, .getfield 9, 3), (23, .aload_n 0, 1), (24, .getfield 15, 3), (27, .lload_n 1, 1)] := by decide +kernel
theorem dX7_append_0 : decode cX7_append 0 = .ok (.iconst 0, 1) := dz_at dqX7_append_p210 0 rfl
theorem dX7_append_1 : decode cX7_append 1 = .ok (.istore 4, 2) := dz_at dqX7_append_p210 1 rfl
theorem dX7_append_3 : decode cX7_append 3 = .ok (.iload 4, 2) := dz_at dqX7_append_p210 2 rfl
theorem dX7_append_5 : decode cX7_append 5 = .ok (.iload_n 3, 1) := dz_at dqX7_append_p210 3 rfl
theorem dX7_append_6 : decode cX7_append 6 = .ok (.if_icmp .ge 50, 3) := dz_at dqX7_append_p210 4 rfl
theorem dX7_append_9 : decode cX7_append 9 = .ok (.aload_n 0, 1) := dz_at dqX7_append_p210 5 rfl
theorem dX7_append_10 : decode cX7_append 10 = .ok (.getfield 15, 3) := dz_at dqX7_append_p210 6 rfl
theorem dX7_append_13 : decode cX7_append 13 = .ok (.sipush 160, 3) := dz_at dqX7_append_p210 7 rfl
theorem dX7_append_16 : decode cX7_append 16 = .ok (.if_icmp .ge 40, 3) := dz_at dqX7_append_p210 8 rfl
theorem dX7_append_19 : decode cX7_append 19 = .ok (.aload_n 0, 1) := dz_at dqX7_append_p210 9 rfl
theorem dX7_append_20 : decode cX7_append 20 = .ok (.getfield 9, 3) := dz_at dqX7_append_p210 10 rfl
theorem dX7_append_23 : decode cX7_append 23 = .ok (.aload_n 0, 1) := dz_at dqX7_append_p210 11 rfl
theorem dX7_append_24 : decode cX7_append 24 = .ok (.getfield 15, 3) := dz_at dqX7_append_p210 12 rfl
theorem dX7_append_27 : decode cX7_append 27 = .ok (.lload_n 1, 1) := dz_at dqX7_append_p210 13 rfl
set_option maxRecDepth 20000 in
theorem dqX7_append_p211 : dz_rn 28 (cX7_append.data.toList.drop 28) [(2, 0), (1, 0), (0, 23), (0, 46), (3, 4), (0, 38)] = some [(28, .bipush 8, 2), (30, .iload 4, 2), (32, .imul, 1), (33, .lshr, 1), (34, .ldc2_w 19, 3), (37, .land, 1)] := by decide +kernel
theorem dX7_append_28 : decode cX7_append 28 = .ok (.bipush 8, 2) := dz_at dqX7_append_p211 0 rfl
theorem dX7_append_30 : decode cX7_append 30 = .ok (.iload 4, 2) := dz_at dqX7_append_p211 1 rfl
theorem dX7_append_32 : decode cX7_append 32 = .ok (.imul, 1) := dz_at dqX7_append_p211 2 rfl
theorem dX7_append_33 : decode cX7_append 33 = .ok (.lshr, 1) := dz_at dqX7_append_p211 3 rfl
theorem dX7_append_34 : decode cX7_append 34 = .ok (.ldc2_w 19, 3) := dz_at dqX7_append_p211 4 rfl
theorem dX7_append_37 : decode cX7_append 37 = .ok (.land, 1) := dz_at dqX7_append_p211 5 rfl
theorem dX7_append_38 : decode cX7_append 38 = .ok (.l2i, 1) := by decide +kernel
set_option maxRecDepth 20000 in
theorem dqX7_append_p212 : dz_rn 39 (cX7_append.data.toList.drop 39) [(0, 22), (0, 4), (0, 28), (3, 0), (0, 9), (0, 11), (3, 3), (5, 0), (4, 0), (0, 25)] = some [(39, .iastore, 1), (40, .aload_n 0, 1), (41, .dup, 1), (42, .getfield 15, 3), (45, .iconst 1, 1), (46, .iadd, 1), (47, .putfield 15, 3), (50, .iinc 4 1, 3), (53, .goto (-50), 3), (56, .return_, 1)] := by decide +kernel
theorem dX7_append_39 : decode cX7_append 39 = .ok (.iastore, 1) := dz_at dqX7_append_p212 0 rfl
theorem dX7_append_40 : decode cX7_append 40 = .ok (.aload_n 0, 1) := dz_at dqX7_append_p212 1 rfl
theorem dX7_append_41 : decode cX7_append 41 = .ok (.dup, 1) := dz_at dqX7_append_p212 2 rfl
theorem dX7_append_42 : decode cX7_append 42 = .ok (.getfield 15, 3) := dz_at dqX7_append_p212 3 rfl
theorem dX7_append_45 : decode cX7_append 45 = .ok (.iconst 1, 1) := dz_at dqX7_append_p212 4 rfl
theorem dX7_append_46 : decode cX7_append 46 = .ok (.iadd, 1) := dz_at dqX7_append_p212 5 rfl
theorem dX7_append_47 : decode cX7_append 47 = .ok (.putfield 15, 3) := dz_at dqX7_append_p212 6 rfl
theorem dX7_append_50 : decode cX7_append 50 = .ok (.iinc 4 1, 3) := dz_at dqX7_append_p212 7 rfl
theorem dX7_append_53 : decode cX7_append 53 = .ok (.goto (-50), 3) := dz_at dqX7_append_p212 8 rfl
theorem dX7_append_56 : decode cX7_append 56 = .ok (.return_, 1) := dz_at dqX7_append_p212 9 rfl
set_option maxRecDepth 20000 in
theorem ggX7_readInto_X5_forget : GoodIn wsX7_readInto wsX5_forget := goodIn_r _ [9, 10, 11, 12, 13, 14, 15, 16, 17, 18, 103, 104, 105, 106, 107] rfl (by decide +kernel)
set_option maxRecDepth 20000 in
theorem gX7_readInto_X5_forget : GoodIn wsX7_readInto (wsV RX7 21 RX5 yX5_forget wsX5_forget) := goodIn_app (goodIn_of _ (by decide +kernel)) ggX7_readInto_X5_forget
set_option maxRecDepth 20000 in
theorem ggX7_readInto_X7_readLine : GoodIn wsX7_readInto wsX7_readLine := goodIn_r _ [23, 24, 25, 26, 22, 27, 1, 3, 4, 2, 28, 29, 30, 31, 32, 33, 34, 35, 36, 37, 38, 39, 40, 41, 42, 43, 44, 45, 46, 47, 48, 49, 50, 51, 52, 53, 54, 55, 56, 57, 58, 59, 60, 61, 62, 63, 64, 65, 66, 67, 68, 69, 70, 71, 72, 73, 74, 75, 76, 77, 78, 79, 80, 81, 82, 83, 84, 85, 86, 87, 88, 89, 90, 91, 92, 93, 94, 95, 96, 97, 98, 103, 104, 105, 106, 107, 99, 100, 101, 102] rfl (by decide +kernel)
set_option maxRecDepth 20000 in
theorem gX7_readInto_X7_readLine : GoodIn wsX7_readInto (wsV RX7 29 RX7 yX7_readLine wsX7_readLine) := goodIn_app (goodIn_of _ (by decide +kernel)) ggX7_readInto_X7_readLine
set_option maxRecDepth 20000 in
theorem ggX7_readInto_X7_nextToken : GoodIn wsX7_readInto wsX7_nextToken := goodIn_r _ [27, 1, 3, 4, 2, 28, 29, 22, 30, 31, 32, 33, 99, 100, 101, 102] rfl (by decide +kernel)
set_option maxRecDepth 20000 in
theorem gX7_readInto_X7_nextToken : GoodIn wsX7_readInto (wsV RX7 39 RX7 yX7_nextToken wsX7_nextToken) := goodIn_app (goodIn_of _ (by decide +kernel)) ggX7_readInto_X7_nextToken
set_option maxRecDepth 20000 in
theorem dqX7_readInto_p210 : dz_rn 0 (cX7_readInto.data.toList.drop 0) [(0, 5), (3, 1), (0, 4), (0, 8), (3, 3), (0, 8), (0, 20), (0, 2), (2, 0), (4, 4), (0, 4), (0, 5), (3, 1), (4, 8)] = some [(0, .aload_n 1, 1), (1, .invokevirtual 21, 3), (4, .aload_n 0, 1), (5, .iconst 0, 1), (6, .putfield 26, 3), (9, .iconst 0, 1), (10, .istore_n 2, 1), (11, .iload_n 2, 1), (12, .bipush 10, 2), (14, .if_icmp .ge 68, 3), (17, .aload_n 0, 1), (18, .aload_n 1, 1), (19, .invokevirtual 29, 3), (22, .ifCond .ne 8, 3)] := by decide +kernel
theorem dX7_readInto_0 : decode cX7_readInto 0 = .ok (.aload_n 1, 1) := dz_at dqX7_readInto_p210 0 rfl
theorem dX7_readInto_1 : decode cX7_readInto 1 = .ok (.invokevirtual 21, 3) := dz_at dqX7_readInto_p210 1 rfl
theorem dX7_readInto_4 : decode cX7_readInto 4 = .ok (.aload_n 0, 1) := dz_at dqX7_readInto_p210 2 rfl
theorem dX7_readInto_5 : decode cX7_readInto 5 = .ok (.iconst 0, 1) := dz_at dqX7_readInto_p210 3 rfl
theorem dX7_readInto_6 : decode cX7_readInto 6 = .ok (.putfield 26, 3) := dz_at dqX7_readInto_p210 4 rfl
theorem dX7_readInto_9 : decode cX7_readInto 9 = .ok (.iconst 0, 1) := dz_at dqX7_readInto_p210 5 rfl
theorem dX7_readInto_10 : decode cX7_readInto 10 = .ok (.istore_n 2, 1) := dz_at dqX7_readInto_p210 6 rfl
theorem dX7_readInto_11 : decode cX7_readInto 11 = .ok (.iload_n 2, 1) := dz_at dqX7_readInto_p210 7 rfl
theorem dX7_readInto_12 : decode cX7_readInto 12 = .ok (.bipush 10, 2) := dz_at dqX7_readInto_p210 8 rfl
theorem dX7_readInto_14 : decode cX7_readInto 14 = .ok (.if_icmp .ge 68, 3) := dz_at dqX7_readInto_p210 9 rfl
theorem dX7_readInto_17 : decode cX7_readInto 17 = .ok (.aload_n 0, 1) := dz_at dqX7_readInto_p210 10 rfl
theorem dX7_readInto_18 : decode cX7_readInto 18 = .ok (.aload_n 1, 1) := dz_at dqX7_readInto_p210 11 rfl
theorem dX7_readInto_19 : decode cX7_readInto 19 = .ok (.invokevirtual 29, 3) := dz_at dqX7_readInto_p210 12 rfl
theorem dX7_readInto_22 : decode cX7_readInto 22 = .ok (.ifCond .ne 8, 3) := dz_at dqX7_readInto_p210 13 rfl
set_option maxRecDepth 20000 in
theorem dqX7_readInto_p211 : dz_rn 25 (cX7_readInto.data.toList.drop 25) [(0, 4), (3, 0), (0, 12), (0, 5), (0, 28), (3, 0), (0, 9), (0, 11), (3, 3), (0, 4), (3, 1), (0, 4), (3, 0), (0, 4)] = some [(25, .aload_n 0, 1), (26, .getfield 33, 3), (29, .ireturn, 1), (30, .aload_n 1, 1), (31, .dup, 1), (32, .getfield 36, 3), (35, .iconst 1, 1), (36, .iadd, 1), (37, .putfield 36, 3), (40, .aload_n 0, 1), (41, .invokevirtual 39, 3), (44, .aload_n 0, 1), (45, .getfield 33, 3), (48, .aload_n 0, 1)] := by decide +kernel
theorem dX7_readInto_25 : decode cX7_readInto 25 = .ok (.aload_n 0, 1) := dz_at dqX7_readInto_p211 0 rfl
theorem dX7_readInto_26 : decode cX7_readInto 26 = .ok (.getfield 33, 3) := dz_at dqX7_readInto_p211 1 rfl
theorem dX7_readInto_29 : decode cX7_readInto 29 = .ok (.ireturn, 1) := dz_at dqX7_readInto_p211 2 rfl
theorem dX7_readInto_30 : decode cX7_readInto 30 = .ok (.aload_n 1, 1) := dz_at dqX7_readInto_p211 3 rfl
theorem dX7_readInto_31 : decode cX7_readInto 31 = .ok (.dup, 1) := dz_at dqX7_readInto_p211 4 rfl
theorem dX7_readInto_32 : decode cX7_readInto 32 = .ok (.getfield 36, 3) := dz_at dqX7_readInto_p211 5 rfl
theorem dX7_readInto_35 : decode cX7_readInto 35 = .ok (.iconst 1, 1) := dz_at dqX7_readInto_p211 6 rfl
theorem dX7_readInto_36 : decode cX7_readInto 36 = .ok (.iadd, 1) := dz_at dqX7_readInto_p211 7 rfl
theorem dX7_readInto_37 : decode cX7_readInto 37 = .ok (.putfield 36, 3) := dz_at dqX7_readInto_p211 8 rfl
theorem dX7_readInto_40 : decode cX7_readInto 40 = .ok (.aload_n 0, 1) := dz_at dqX7_readInto_p211 9 rfl
theorem dX7_readInto_41 : decode cX7_readInto 41 = .ok (.invokevirtual 39, 3) := dz_at dqX7_readInto_p211 10 rfl
theorem dX7_readInto_44 : decode cX7_readInto 44 = .ok (.aload_n 0, 1) := dz_at dqX7_readInto_p211 11 rfl
theorem dX7_readInto_45 : decode cX7_readInto 45 = .ok (.getfield 33, 3) := dz_at dqX7_readInto_p211 12 rfl
theorem dX7_readInto_48 : decode cX7_readInto 48 = .ok (.aload_n 0, 1) := dz_at dqX7_readInto_p211 13 rfl
set_option maxRecDepth 20000 in
theorem dqX7_readInto_p212 : dz_rn 49 (cX7_readInto.data.toList.drop 49) [(3, 0), (4, 3), (0, 13), (0, 12), (0, 4), (3, 0), (0, 4), (3, 0), (0, 10), (2, 0), (4, 1), (0, 4), (3, 0), (0, 12)] = some [(49, .getfield 15, 3), (52, .if_icmp .lt 5, 3), (55, .iconst (-1), 1), (56, .ireturn, 1), (57, .aload_n 0, 1), (58, .getfield 9, 3), (61, .aload_n 0, 1), (62, .getfield 33, 3), (65, .iaload, 1), (66, .bipush 59, 2), (68, .if_icmp .eq 8, 3), (71, .aload_n 0, 1), (72, .getfield 33, 3), (75, .ireturn, 1)] := by decide +kernel
theorem dX7_readInto_49 : decode cX7_readInto 49 = .ok (.getfield 15, 3) := dz_at dqX7_readInto_p212 0 rfl
theorem dX7_readInto_52 : decode cX7_readInto 52 = .ok (.if_icmp .lt 5, 3) := dz_at dqX7_readInto_p212 1 rfl
theorem dX7_readInto_55 : decode cX7_readInto 55 = .ok (.iconst (-1), 1) := dz_at dqX7_readInto_p212 2 rfl
theorem dX7_readInto_56 : decode cX7_readInto 56 = .ok (.ireturn, 1) := dz_at dqX7_readInto_p212 3 rfl
theorem dX7_readInto_57 : decode cX7_readInto 57 = .ok (.aload_n 0, 1) := dz_at dqX7_readInto_p212 4 rfl
theorem dX7_readInto_58 : decode cX7_readInto 58 = .ok (.getfield 9, 3) := dz_at dqX7_readInto_p212 5 rfl
theorem dX7_readInto_61 : decode cX7_readInto 61 = .ok (.aload_n 0, 1) := dz_at dqX7_readInto_p212 6 rfl
theorem dX7_readInto_62 : decode cX7_readInto 62 = .ok (.getfield 33, 3) := dz_at dqX7_readInto_p212 7 rfl
theorem dX7_readInto_65 : decode cX7_readInto 65 = .ok (.iaload, 1) := dz_at dqX7_readInto_p212 8 rfl
theorem dX7_readInto_66 : decode cX7_readInto 66 = .ok (.bipush 59, 2) := dz_at dqX7_readInto_p212 9 rfl
theorem dX7_readInto_68 : decode cX7_readInto 68 = .ok (.if_icmp .eq 8, 3) := dz_at dqX7_readInto_p212 10 rfl
theorem dX7_readInto_71 : decode cX7_readInto 71 = .ok (.aload_n 0, 1) := dz_at dqX7_readInto_p212 11 rfl
theorem dX7_readInto_72 : decode cX7_readInto 72 = .ok (.getfield 33, 3) := dz_at dqX7_readInto_p212 12 rfl
theorem dX7_readInto_75 : decode cX7_readInto 75 = .ok (.ireturn, 1) := dz_at dqX7_readInto_p212 13 rfl
set_option maxRecDepth 20000 in
theorem dqX7_readInto_p213 : dz_rn 76 (cX7_readInto.data.toList.drop 76) [(5, 0), (4, 0), (0, 4), (3, 0), (0, 12)] = some [(76, .iinc 2 1, 3), (79, .goto (-68), 3), (82, .aload_n 0, 1), (83, .getfield 33, 3), (86, .ireturn, 1)] := by decide +kernel
theorem dX7_readInto_76 : decode cX7_readInto 76 = .ok (.iinc 2 1, 3) := dz_at dqX7_readInto_p213 0 rfl
theorem dX7_readInto_79 : decode cX7_readInto 79 = .ok (.goto (-68), 3) := dz_at dqX7_readInto_p213 1 rfl
theorem dX7_readInto_82 : decode cX7_readInto 82 = .ok (.aload_n 0, 1) := dz_at dqX7_readInto_p213 2 rfl
theorem dX7_readInto_83 : decode cX7_readInto 83 = .ok (.getfield 33, 3) := dz_at dqX7_readInto_p213 3 rfl
theorem dX7_readInto_86 : decode cX7_readInto 86 = .ok (.ireturn, 1) := dz_at dqX7_readInto_p213 4 rfl
set_option maxRecDepth 20000 in
theorem ggX7_readLine_X7_nextToken : GoodIn wsX7_readLine wsX7_nextToken := goodIn_r _ [5, 6, 7, 8, 9, 10, 11, 4, 12, 13, 14, 15, 86, 87, 88, 89] rfl (by decide +kernel)
set_option maxRecDepth 20000 in
theorem gX7_readLine_X7_nextToken : GoodIn wsX7_readLine (wsV RX7 39 RX7 yX7_nextToken wsX7_nextToken) := goodIn_app (goodIn_of _ (by decide +kernel)) ggX7_readLine_X7_nextToken
set_option maxRecDepth 20000 in
theorem ggX7_readLine_X7_tokenIs : GoodIn wsX7_readLine wsX7_tokenIs := goodIn_r _ [19, 6, 9, 8, 20, 21, 22, 23, 24, 25, 26, 27, 28, 29, 30, 31, 32, 33, 34, 35, 36, 37, 38, 39, 40, 41, 42, 43, 44, 45, 46, 47, 48, 49, 50, 51, 52, 53, 54, 55, 56, 57, 58, 59, 60, 61, 62, 63, 64, 65, 66, 67, 68, 86, 87, 88, 89] rfl (by decide +kernel)
set_option maxRecDepth 20000 in
theorem gX7_readLine_X7_tokenIs : GoodIn wsX7_readLine (wsV RX7 44 RX7 yX7_tokenIs wsX7_tokenIs) := goodIn_app (goodIn_of _ (by decide +kernel)) ggX7_readLine_X7_tokenIs
set_option maxRecDepth 20000 in
theorem ggX7_readLine_X7_readRoomLine : GoodIn wsX7_readLine wsX7_readRoomLine := goodIn_r _ [72, 73, 74, 75, 4, 76, 6, 9, 8, 1, 2, 3, 5, 7, 10, 11, 12, 13, 14, 15, 81, 82, 83, 84, 85, 86, 87, 88, 89] rfl (by decide +kernel)
set_option maxRecDepth 20000 in
theorem gX7_readLine_X7_readRoomLine : GoodIn wsX7_readLine (wsV RX7 48 RX7 yX7_readRoomLine wsX7_readRoomLine) := goodIn_app (goodIn_of _ (by decide +kernel)) ggX7_readLine_X7_readRoomLine
set_option maxRecDepth 20000 in
theorem ggX7_readLine_X7_readNumber : GoodIn wsX7_readLine wsX7_readNumber := goodIn_r _ [76, 6, 9, 8, 1, 2, 3, 4, 5, 7, 10, 11, 12, 13, 14, 15, 86, 87, 88, 89] rfl (by decide +kernel)
set_option maxRecDepth 20000 in
theorem gX7_readLine_X7_readNumber : GoodIn wsX7_readLine (wsV RX7 53 RX7 yX7_readNumber wsX7_readNumber) := goodIn_app (goodIn_of _ (by decide +kernel)) ggX7_readLine_X7_readNumber
set_option maxRecDepth 20000 in
theorem ggX7_readLine_X7_readWalkLine : GoodIn wsX7_readLine wsX7_readWalkLine := goodIn_r _ [80, 73, 74, 75, 4, 76, 6, 9, 8, 1, 2, 3, 5, 7, 10, 11, 12, 13, 14, 15, 16, 17, 18, 19, 20, 21, 22, 23, 24, 25, 26, 27, 28, 29, 30, 31, 32, 33, 34, 35, 36, 37, 38, 39, 40, 41, 42, 43, 44, 45, 46, 47, 48, 49, 50, 51, 52, 53, 54, 55, 56, 57, 58, 59, 60, 61, 62, 63, 64, 65, 66, 67, 68, 81, 82, 83, 84, 85, 86, 87, 88, 89] rfl (by decide +kernel)
set_option maxRecDepth 20000 in
theorem gX7_readLine_X7_readWalkLine : GoodIn wsX7_readLine (wsV RX7 65 RX7 yX7_readWalkLine wsX7_readWalkLine) := goodIn_app (goodIn_of _ (by decide +kernel)) ggX7_readLine_X7_readWalkLine
set_option maxRecDepth 20000 in
theorem dqX7_readLine_p210 : dz_rn 0 (cX7_readLine.data.toList.drop 0) [(0, 4), (3, 1), (0, 4)] = some [(0, .aload_n 0, 1), (1, .invokevirtual 39, 3), (4, .aload_n 0, 1)] := by decide +kernel
theorem dX7_readLine_0 : decode cX7_readLine 0 = .ok (.aload_n 0, 1) := dz_at dqX7_readLine_p210 0 rfl
theorem dX7_readLine_1 : decode cX7_readLine 1 = .ok (.invokevirtual 39, 3) := dz_at dqX7_readLine_p210 1 rfl
theorem dX7_readLine_4 : decode cX7_readLine 4 = .ok (.aload_n 0, 1) := dz_at dqX7_readLine_p210 2 rfl
theorem dX7_readLine_5 : decode cX7_readLine 5 = .ok (.ldc 42, 2) := by decide +kernel
set_option maxRecDepth 20000 in
theorem dqX7_readLine_p211 : dz_rn 7 (cX7_readLine.data.toList.drop 7) [(3, 1), (4, 7), (0, 4), (0, 5), (3, 1), (0, 12), (0, 4)] = some [(7, .invokevirtual 44, 3), (10, .ifCond .eq 9, 3), (13, .aload_n 0, 1), (14, .aload_n 1, 1), (15, .invokevirtual 48, 3), (18, .ireturn, 1), (19, .aload_n 0, 1)] := by decide +kernel
theorem dX7_readLine_7 : decode cX7_readLine 7 = .ok (.invokevirtual 44, 3) := dz_at dqX7_readLine_p211 0 rfl
theorem dX7_readLine_10 : decode cX7_readLine 10 = .ok (.ifCond .eq 9, 3) := dz_at dqX7_readLine_p211 1 rfl
theorem dX7_readLine_13 : decode cX7_readLine 13 = .ok (.aload_n 0, 1) := dz_at dqX7_readLine_p211 2 rfl
theorem dX7_readLine_14 : decode cX7_readLine 14 = .ok (.aload_n 1, 1) := dz_at dqX7_readLine_p211 3 rfl
theorem dX7_readLine_15 : decode cX7_readLine 15 = .ok (.invokevirtual 48, 3) := dz_at dqX7_readLine_p211 4 rfl
theorem dX7_readLine_18 : decode cX7_readLine 18 = .ok (.ireturn, 1) := dz_at dqX7_readLine_p211 5 rfl
theorem dX7_readLine_19 : decode cX7_readLine 19 = .ok (.aload_n 0, 1) := dz_at dqX7_readLine_p211 6 rfl
theorem dX7_readLine_20 : decode cX7_readLine 20 = .ok (.ldc 51, 2) := by decide +kernel
set_option maxRecDepth 20000 in
theorem dqX7_readLine_p212 : dz_rn 22 (cX7_readLine.data.toList.drop 22) [(3, 1), (4, 7), (0, 5), (0, 4), (0, 9), (2, 0), (3, 1), (3, 3), (0, 5), (3, 0), (0, 13), (4, 1), (0, 9), (4, 0)] = some [(22, .invokevirtual 44, 3), (25, .ifCond .eq 28, 3), (28, .aload_n 1, 1), (29, .aload_n 0, 1), (30, .iconst 1, 1), (31, .bipush 99, 2), (33, .invokevirtual 53, 3), (36, .putfield 57, 3), (39, .aload_n 1, 1), (40, .getfield 57, 3), (43, .iconst (-1), 1), (44, .if_icmp .eq 7, 3), (47, .iconst 1, 1), (48, .goto 4, 3)] := by decide +kernel
theorem dX7_readLine_22 : decode cX7_readLine 22 = .ok (.invokevirtual 44, 3) := dz_at dqX7_readLine_p212 0 rfl
theorem dX7_readLine_25 : decode cX7_readLine 25 = .ok (.ifCond .eq 28, 3) := dz_at dqX7_readLine_p212 1 rfl
theorem dX7_readLine_28 : decode cX7_readLine 28 = .ok (.aload_n 1, 1) := dz_at dqX7_readLine_p212 2 rfl
theorem dX7_readLine_29 : decode cX7_readLine 29 = .ok (.aload_n 0, 1) := dz_at dqX7_readLine_p212 3 rfl
theorem dX7_readLine_30 : decode cX7_readLine 30 = .ok (.iconst 1, 1) := dz_at dqX7_readLine_p212 4 rfl
theorem dX7_readLine_31 : decode cX7_readLine 31 = .ok (.bipush 99, 2) := dz_at dqX7_readLine_p212 5 rfl
theorem dX7_readLine_33 : decode cX7_readLine 33 = .ok (.invokevirtual 53, 3) := dz_at dqX7_readLine_p212 6 rfl
theorem dX7_readLine_36 : decode cX7_readLine 36 = .ok (.putfield 57, 3) := dz_at dqX7_readLine_p212 7 rfl
theorem dX7_readLine_39 : decode cX7_readLine 39 = .ok (.aload_n 1, 1) := dz_at dqX7_readLine_p212 8 rfl
theorem dX7_readLine_40 : decode cX7_readLine 40 = .ok (.getfield 57, 3) := dz_at dqX7_readLine_p212 9 rfl
theorem dX7_readLine_43 : decode cX7_readLine 43 = .ok (.iconst (-1), 1) := dz_at dqX7_readLine_p212 10 rfl
theorem dX7_readLine_44 : decode cX7_readLine 44 = .ok (.if_icmp .eq 7, 3) := dz_at dqX7_readLine_p212 11 rfl
theorem dX7_readLine_47 : decode cX7_readLine 47 = .ok (.iconst 1, 1) := dz_at dqX7_readLine_p212 12 rfl
theorem dX7_readLine_48 : decode cX7_readLine 48 = .ok (.goto 4, 3) := dz_at dqX7_readLine_p212 13 rfl
set_option maxRecDepth 20000 in
theorem dqX7_readLine_p213 : dz_rn 51 (cX7_readLine.data.toList.drop 51) [(0, 8), (0, 12), (0, 4)] = some [(51, .iconst 0, 1), (52, .ireturn, 1), (53, .aload_n 0, 1)] := by decide +kernel
theorem dX7_readLine_51 : decode cX7_readLine 51 = .ok (.iconst 0, 1) := dz_at dqX7_readLine_p213 0 rfl
theorem dX7_readLine_52 : decode cX7_readLine 52 = .ok (.ireturn, 1) := dz_at dqX7_readLine_p213 1 rfl
theorem dX7_readLine_53 : decode cX7_readLine 53 = .ok (.aload_n 0, 1) := dz_at dqX7_readLine_p213 2 rfl
theorem dX7_readLine_54 : decode cX7_readLine 54 = .ok (.ldc 59, 2) := by decide +kernel
set_option maxRecDepth 20000 in
theorem dqX7_readLine_p214 : dz_rn 56 (cX7_readLine.data.toList.drop 56) [(3, 1), (4, 7), (0, 5), (0, 4), (0, 8), (2, 0), (3, 1), (3, 3), (0, 5), (3, 0), (0, 13), (4, 1), (0, 9), (4, 0)] = some [(56, .invokevirtual 44, 3), (59, .ifCond .eq 28, 3), (62, .aload_n 1, 1), (63, .aload_n 0, 1), (64, .iconst 0, 1), (65, .bipush 8, 2), (67, .invokevirtual 53, 3), (70, .putfield 61, 3), (73, .aload_n 1, 1), (74, .getfield 61, 3), (77, .iconst (-1), 1), (78, .if_icmp .eq 7, 3), (81, .iconst 1, 1), (82, .goto 4, 3)] := by decide +kernel
theorem dX7_readLine_56 : decode cX7_readLine 56 = .ok (.invokevirtual 44, 3) := dz_at dqX7_readLine_p214 0 rfl
theorem dX7_readLine_59 : decode cX7_readLine 59 = .ok (.ifCond .eq 28, 3) := dz_at dqX7_readLine_p214 1 rfl
theorem dX7_readLine_62 : decode cX7_readLine 62 = .ok (.aload_n 1, 1) := dz_at dqX7_readLine_p214 2 rfl
theorem dX7_readLine_63 : decode cX7_readLine 63 = .ok (.aload_n 0, 1) := dz_at dqX7_readLine_p214 3 rfl
theorem dX7_readLine_64 : decode cX7_readLine 64 = .ok (.iconst 0, 1) := dz_at dqX7_readLine_p214 4 rfl
theorem dX7_readLine_65 : decode cX7_readLine 65 = .ok (.bipush 8, 2) := dz_at dqX7_readLine_p214 5 rfl
theorem dX7_readLine_67 : decode cX7_readLine 67 = .ok (.invokevirtual 53, 3) := dz_at dqX7_readLine_p214 6 rfl
theorem dX7_readLine_70 : decode cX7_readLine 70 = .ok (.putfield 61, 3) := dz_at dqX7_readLine_p214 7 rfl
theorem dX7_readLine_73 : decode cX7_readLine 73 = .ok (.aload_n 1, 1) := dz_at dqX7_readLine_p214 8 rfl
theorem dX7_readLine_74 : decode cX7_readLine 74 = .ok (.getfield 61, 3) := dz_at dqX7_readLine_p214 9 rfl
theorem dX7_readLine_77 : decode cX7_readLine 77 = .ok (.iconst (-1), 1) := dz_at dqX7_readLine_p214 10 rfl
theorem dX7_readLine_78 : decode cX7_readLine 78 = .ok (.if_icmp .eq 7, 3) := dz_at dqX7_readLine_p214 11 rfl
theorem dX7_readLine_81 : decode cX7_readLine 81 = .ok (.iconst 1, 1) := dz_at dqX7_readLine_p214 12 rfl
theorem dX7_readLine_82 : decode cX7_readLine 82 = .ok (.goto 4, 3) := dz_at dqX7_readLine_p214 13 rfl
set_option maxRecDepth 20000 in
theorem dqX7_readLine_p215 : dz_rn 85 (cX7_readLine.data.toList.drop 85) [(0, 8), (0, 12), (0, 4)] = some [(85, .iconst 0, 1), (86, .ireturn, 1), (87, .aload_n 0, 1)] := by decide +kernel
theorem dX7_readLine_85 : decode cX7_readLine 85 = .ok (.iconst 0, 1) := dz_at dqX7_readLine_p215 0 rfl
theorem dX7_readLine_86 : decode cX7_readLine 86 = .ok (.ireturn, 1) := dz_at dqX7_readLine_p215 1 rfl
theorem dX7_readLine_87 : decode cX7_readLine 87 = .ok (.aload_n 0, 1) := dz_at dqX7_readLine_p215 2 rfl
theorem dX7_readLine_88 : decode cX7_readLine 88 = .ok (.ldc 63, 2) := by decide +kernel
set_option maxRecDepth 20000 in
theorem dqX7_readLine_p216 : dz_rn 90 (cX7_readLine.data.toList.drop 90) [(3, 1), (4, 7), (0, 4), (0, 5), (3, 1), (4, 7), (0, 9), (4, 0), (0, 8), (0, 12)] = some [(90, .invokevirtual 44, 3), (93, .ifCond .eq 15, 3), (96, .aload_n 0, 1), (97, .aload_n 1, 1), (98, .invokevirtual 65, 3), (101, .ifCond .eq 7, 3), (104, .iconst 1, 1), (105, .goto 4, 3), (108, .iconst 0, 1), (109, .ireturn, 1)] := by decide +kernel
theorem dX7_readLine_90 : decode cX7_readLine 90 = .ok (.invokevirtual 44, 3) := dz_at dqX7_readLine_p216 0 rfl
theorem dX7_readLine_93 : decode cX7_readLine 93 = .ok (.ifCond .eq 15, 3) := dz_at dqX7_readLine_p216 1 rfl
theorem dX7_readLine_96 : decode cX7_readLine 96 = .ok (.aload_n 0, 1) := dz_at dqX7_readLine_p216 2 rfl
theorem dX7_readLine_97 : decode cX7_readLine 97 = .ok (.aload_n 1, 1) := dz_at dqX7_readLine_p216 3 rfl
theorem dX7_readLine_98 : decode cX7_readLine 98 = .ok (.invokevirtual 65, 3) := dz_at dqX7_readLine_p216 4 rfl
theorem dX7_readLine_101 : decode cX7_readLine 101 = .ok (.ifCond .eq 7, 3) := dz_at dqX7_readLine_p216 5 rfl
theorem dX7_readLine_104 : decode cX7_readLine 104 = .ok (.iconst 1, 1) := dz_at dqX7_readLine_p216 6 rfl
theorem dX7_readLine_105 : decode cX7_readLine 105 = .ok (.goto 4, 3) := dz_at dqX7_readLine_p216 7 rfl
theorem dX7_readLine_108 : decode cX7_readLine 108 = .ok (.iconst 0, 1) := dz_at dqX7_readLine_p216 8 rfl
theorem dX7_readLine_109 : decode cX7_readLine 109 = .ok (.ireturn, 1) := dz_at dqX7_readLine_p216 9 rfl
set_option maxRecDepth 20000 in
theorem ggX7_readRoomLine_X7_readNumber : GoodIn wsX7_readRoomLine wsX7_readNumber := goodIn_r _ [5, 6, 7, 8, 9, 10, 11, 4, 12, 13, 14, 15, 16, 17, 18, 19, 25, 26, 27, 28] rfl (by decide +kernel)
set_option maxRecDepth 20000 in
theorem gX7_readRoomLine_X7_readNumber : GoodIn wsX7_readRoomLine (wsV RX7 53 RX7 yX7_readNumber wsX7_readNumber) := goodIn_app (goodIn_of _ (by decide +kernel)) ggX7_readRoomLine_X7_readNumber
set_option maxRecDepth 20000 in
theorem dqX7_readRoomLine_p210 : dz_rn 0 (cX7_readRoomLine.data.toList.drop 0) [(0, 4), (0, 8), (2, 0), (3, 1), (0, 20), (0, 2), (0, 13), (4, 2), (0, 8), (0, 12), (0, 5), (3, 0), (0, 2), (0, 4)] = some [(0, .aload_n 0, 1), (1, .iconst 0, 1), (2, .bipush 7, 2), (4, .invokevirtual 53, 3), (7, .istore_n 2, 1), (8, .iload_n 2, 1), (9, .iconst (-1), 1), (10, .if_icmp .ne 5, 3), (13, .iconst 0, 1), (14, .ireturn, 1), (15, .aload_n 1, 1), (16, .getfield 68, 3), (19, .iload_n 2, 1), (20, .aload_n 0, 1)] := by decide +kernel
theorem dX7_readRoomLine_0 : decode cX7_readRoomLine 0 = .ok (.aload_n 0, 1) := dz_at dqX7_readRoomLine_p210 0 rfl
theorem dX7_readRoomLine_1 : decode cX7_readRoomLine 1 = .ok (.iconst 0, 1) := dz_at dqX7_readRoomLine_p210 1 rfl
theorem dX7_readRoomLine_2 : decode cX7_readRoomLine 2 = .ok (.bipush 7, 2) := dz_at dqX7_readRoomLine_p210 2 rfl
theorem dX7_readRoomLine_4 : decode cX7_readRoomLine 4 = .ok (.invokevirtual 53, 3) := dz_at dqX7_readRoomLine_p210 3 rfl
theorem dX7_readRoomLine_7 : decode cX7_readRoomLine 7 = .ok (.istore_n 2, 1) := dz_at dqX7_readRoomLine_p210 4 rfl
theorem dX7_readRoomLine_8 : decode cX7_readRoomLine 8 = .ok (.iload_n 2, 1) := dz_at dqX7_readRoomLine_p210 5 rfl
theorem dX7_readRoomLine_9 : decode cX7_readRoomLine 9 = .ok (.iconst (-1), 1) := dz_at dqX7_readRoomLine_p210 6 rfl
theorem dX7_readRoomLine_10 : decode cX7_readRoomLine 10 = .ok (.if_icmp .ne 5, 3) := dz_at dqX7_readRoomLine_p210 7 rfl
theorem dX7_readRoomLine_13 : decode cX7_readRoomLine 13 = .ok (.iconst 0, 1) := dz_at dqX7_readRoomLine_p210 8 rfl
theorem dX7_readRoomLine_14 : decode cX7_readRoomLine 14 = .ok (.ireturn, 1) := dz_at dqX7_readRoomLine_p210 9 rfl
theorem dX7_readRoomLine_15 : decode cX7_readRoomLine 15 = .ok (.aload_n 1, 1) := dz_at dqX7_readRoomLine_p210 10 rfl
theorem dX7_readRoomLine_16 : decode cX7_readRoomLine 16 = .ok (.getfield 68, 3) := dz_at dqX7_readRoomLine_p210 11 rfl
theorem dX7_readRoomLine_19 : decode cX7_readRoomLine 19 = .ok (.iload_n 2, 1) := dz_at dqX7_readRoomLine_p210 12 rfl
theorem dX7_readRoomLine_20 : decode cX7_readRoomLine 20 = .ok (.aload_n 0, 1) := dz_at dqX7_readRoomLine_p210 13 rfl
set_option maxRecDepth 20000 in
theorem dqX7_readRoomLine_p211 : dz_rn 21 (cX7_readRoomLine.data.toList.drop 21) [(0, 8), (2, 0), (3, 1), (0, 22), (0, 5), (3, 0), (0, 2), (0, 10), (0, 13), (4, 1), (0, 9), (4, 0), (0, 8), (0, 12)] = some [(21, .iconst 0, 1), (22, .bipush 8, 2), (24, .invokevirtual 53, 3), (27, .iastore, 1), (28, .aload_n 1, 1), (29, .getfield 68, 3), (32, .iload_n 2, 1), (33, .iaload, 1), (34, .iconst (-1), 1), (35, .if_icmp .eq 7, 3), (38, .iconst 1, 1), (39, .goto 4, 3), (42, .iconst 0, 1), (43, .ireturn, 1)] := by decide +kernel
theorem dX7_readRoomLine_21 : decode cX7_readRoomLine 21 = .ok (.iconst 0, 1) := dz_at dqX7_readRoomLine_p211 0 rfl
theorem dX7_readRoomLine_22 : decode cX7_readRoomLine 22 = .ok (.bipush 8, 2) := dz_at dqX7_readRoomLine_p211 1 rfl
theorem dX7_readRoomLine_24 : decode cX7_readRoomLine 24 = .ok (.invokevirtual 53, 3) := dz_at dqX7_readRoomLine_p211 2 rfl
theorem dX7_readRoomLine_27 : decode cX7_readRoomLine 27 = .ok (.iastore, 1) := dz_at dqX7_readRoomLine_p211 3 rfl
theorem dX7_readRoomLine_28 : decode cX7_readRoomLine 28 = .ok (.aload_n 1, 1) := dz_at dqX7_readRoomLine_p211 4 rfl
theorem dX7_readRoomLine_29 : decode cX7_readRoomLine 29 = .ok (.getfield 68, 3) := dz_at dqX7_readRoomLine_p211 5 rfl
theorem dX7_readRoomLine_32 : decode cX7_readRoomLine 32 = .ok (.iload_n 2, 1) := dz_at dqX7_readRoomLine_p211 6 rfl
theorem dX7_readRoomLine_33 : decode cX7_readRoomLine 33 = .ok (.iaload, 1) := dz_at dqX7_readRoomLine_p211 7 rfl
theorem dX7_readRoomLine_34 : decode cX7_readRoomLine 34 = .ok (.iconst (-1), 1) := dz_at dqX7_readRoomLine_p211 8 rfl
theorem dX7_readRoomLine_35 : decode cX7_readRoomLine 35 = .ok (.if_icmp .eq 7, 3) := dz_at dqX7_readRoomLine_p211 9 rfl
theorem dX7_readRoomLine_38 : decode cX7_readRoomLine 38 = .ok (.iconst 1, 1) := dz_at dqX7_readRoomLine_p211 10 rfl
theorem dX7_readRoomLine_39 : decode cX7_readRoomLine 39 = .ok (.goto 4, 3) := dz_at dqX7_readRoomLine_p211 11 rfl
theorem dX7_readRoomLine_42 : decode cX7_readRoomLine 42 = .ok (.iconst 0, 1) := dz_at dqX7_readRoomLine_p211 12 rfl
theorem dX7_readRoomLine_43 : decode cX7_readRoomLine 43 = .ok (.ireturn, 1) := dz_at dqX7_readRoomLine_p211 13 rfl
set_option maxRecDepth 20000 in
theorem ggX7_readWalkLine_X7_readNumber : GoodIn wsX7_readWalkLine wsX7_readNumber := goodIn_r _ [5, 6, 7, 8, 9, 10, 11, 4, 12, 13, 14, 15, 16, 17, 18, 19, 78, 79, 80, 81] rfl (by decide +kernel)
set_option maxRecDepth 20000 in
theorem gX7_readWalkLine_X7_readNumber : GoodIn wsX7_readWalkLine (wsV RX7 53 RX7 yX7_readNumber wsX7_readNumber) := goodIn_app (goodIn_of _ (by decide +kernel)) ggX7_readWalkLine_X7_readNumber
set_option maxRecDepth 20000 in
theorem ggX7_readWalkLine_X7_nextToken : GoodIn wsX7_readWalkLine wsX7_nextToken := goodIn_r _ [12, 6, 13, 8, 7, 14, 15, 4, 16, 17, 18, 19, 78, 79, 80, 81] rfl (by decide +kernel)
set_option maxRecDepth 20000 in
theorem gX7_readWalkLine_X7_nextToken : GoodIn wsX7_readWalkLine (wsV RX7 39 RX7 yX7_nextToken wsX7_nextToken) := goodIn_app (goodIn_of _ (by decide +kernel)) ggX7_readWalkLine_X7_nextToken
set_option maxRecDepth 20000 in
theorem ggX7_readWalkLine_X7_tokenIs : GoodIn wsX7_readWalkLine wsX7_tokenIs := goodIn_r _ [23, 6, 7, 8, 24, 25, 26, 27, 28, 29, 30, 31, 32, 33, 34, 35, 36, 37, 38, 39, 40, 41, 42, 43, 44, 45, 46, 47, 48, 49, 50, 51, 52, 53, 54, 55, 56, 57, 58, 59, 60, 61, 62, 63, 64, 65, 66, 67, 68, 69, 70, 71, 72, 78, 79, 80, 81] rfl (by decide +kernel)
set_option maxRecDepth 20000 in
theorem gX7_readWalkLine_X7_tokenIs : GoodIn wsX7_readWalkLine (wsV RX7 44 RX7 yX7_tokenIs wsX7_tokenIs) := goodIn_app (goodIn_of _ (by decide +kernel)) ggX7_readWalkLine_X7_tokenIs
set_option maxRecDepth 20000 in
theorem dqX7_readWalkLine_p210 : dz_rn 0 (cX7_readWalkLine.data.toList.drop 0) [(0, 4), (0, 8), (2, 0), (3, 1), (0, 20), (0, 2), (0, 13), (4, 2), (0, 8), (0, 12), (0, 4), (3, 1), (0, 4)] = some [(0, .aload_n 0, 1), (1, .iconst 0, 1), (2, .bipush 7, 2), (4, .invokevirtual 53, 3), (7, .istore_n 2, 1), (8, .iload_n 2, 1), (9, .iconst (-1), 1), (10, .if_icmp .ne 5, 3), (13, .iconst 0, 1), (14, .ireturn, 1), (15, .aload_n 0, 1), (16, .invokevirtual 39, 3), (19, .aload_n 0, 1)] := by decide +kernel
theorem dX7_readWalkLine_0 : decode cX7_readWalkLine 0 = .ok (.aload_n 0, 1) := dz_at dqX7_readWalkLine_p210 0 rfl
theorem dX7_readWalkLine_1 : decode cX7_readWalkLine 1 = .ok (.iconst 0, 1) := dz_at dqX7_readWalkLine_p210 1 rfl
theorem dX7_readWalkLine_2 : decode cX7_readWalkLine 2 = .ok (.bipush 7, 2) := dz_at dqX7_readWalkLine_p210 2 rfl
theorem dX7_readWalkLine_4 : decode cX7_readWalkLine 4 = .ok (.invokevirtual 53, 3) := dz_at dqX7_readWalkLine_p210 3 rfl
theorem dX7_readWalkLine_7 : decode cX7_readWalkLine 7 = .ok (.istore_n 2, 1) := dz_at dqX7_readWalkLine_p210 4 rfl
theorem dX7_readWalkLine_8 : decode cX7_readWalkLine 8 = .ok (.iload_n 2, 1) := dz_at dqX7_readWalkLine_p210 5 rfl
theorem dX7_readWalkLine_9 : decode cX7_readWalkLine 9 = .ok (.iconst (-1), 1) := dz_at dqX7_readWalkLine_p210 6 rfl
theorem dX7_readWalkLine_10 : decode cX7_readWalkLine 10 = .ok (.if_icmp .ne 5, 3) := dz_at dqX7_readWalkLine_p210 7 rfl
theorem dX7_readWalkLine_13 : decode cX7_readWalkLine 13 = .ok (.iconst 0, 1) := dz_at dqX7_readWalkLine_p210 8 rfl
theorem dX7_readWalkLine_14 : decode cX7_readWalkLine 14 = .ok (.ireturn, 1) := dz_at dqX7_readWalkLine_p210 9 rfl
theorem dX7_readWalkLine_15 : decode cX7_readWalkLine 15 = .ok (.aload_n 0, 1) := dz_at dqX7_readWalkLine_p210 10 rfl
theorem dX7_readWalkLine_16 : decode cX7_readWalkLine 16 = .ok (.invokevirtual 39, 3) := dz_at dqX7_readWalkLine_p210 11 rfl
theorem dX7_readWalkLine_19 : decode cX7_readWalkLine 19 = .ok (.aload_n 0, 1) := dz_at dqX7_readWalkLine_p210 12 rfl
theorem dX7_readWalkLine_20 : decode cX7_readWalkLine 20 = .ok (.ldc 71, 2) := by decide +kernel
set_option maxRecDepth 20000 in
theorem dqX7_readWalkLine_p211 : dz_rn 22 (cX7_readWalkLine.data.toList.drop 22) [(3, 1), (4, 8), (0, 8), (0, 12), (0, 5), (3, 0), (0, 2), (0, 4), (0, 9), (2, 0), (3, 1), (0, 22), (0, 5), (3, 0)] = some [(22, .invokevirtual 44, 3), (25, .ifCond .ne 5, 3), (28, .iconst 0, 1), (29, .ireturn, 1), (30, .aload_n 1, 1), (31, .getfield 73, 3), (34, .iload_n 2, 1), (35, .aload_n 0, 1), (36, .iconst 1, 1), (37, .bipush 99, 2), (39, .invokevirtual 53, 3), (42, .iastore, 1), (43, .aload_n 1, 1), (44, .getfield 73, 3)] := by decide +kernel
theorem dX7_readWalkLine_22 : decode cX7_readWalkLine 22 = .ok (.invokevirtual 44, 3) := dz_at dqX7_readWalkLine_p211 0 rfl
theorem dX7_readWalkLine_25 : decode cX7_readWalkLine 25 = .ok (.ifCond .ne 5, 3) := dz_at dqX7_readWalkLine_p211 1 rfl
theorem dX7_readWalkLine_28 : decode cX7_readWalkLine 28 = .ok (.iconst 0, 1) := dz_at dqX7_readWalkLine_p211 2 rfl
theorem dX7_readWalkLine_29 : decode cX7_readWalkLine 29 = .ok (.ireturn, 1) := dz_at dqX7_readWalkLine_p211 3 rfl
theorem dX7_readWalkLine_30 : decode cX7_readWalkLine 30 = .ok (.aload_n 1, 1) := dz_at dqX7_readWalkLine_p211 4 rfl
theorem dX7_readWalkLine_31 : decode cX7_readWalkLine 31 = .ok (.getfield 73, 3) := dz_at dqX7_readWalkLine_p211 5 rfl
theorem dX7_readWalkLine_34 : decode cX7_readWalkLine 34 = .ok (.iload_n 2, 1) := dz_at dqX7_readWalkLine_p211 6 rfl
theorem dX7_readWalkLine_35 : decode cX7_readWalkLine 35 = .ok (.aload_n 0, 1) := dz_at dqX7_readWalkLine_p211 7 rfl
theorem dX7_readWalkLine_36 : decode cX7_readWalkLine 36 = .ok (.iconst 1, 1) := dz_at dqX7_readWalkLine_p211 8 rfl
theorem dX7_readWalkLine_37 : decode cX7_readWalkLine 37 = .ok (.bipush 99, 2) := dz_at dqX7_readWalkLine_p211 9 rfl
theorem dX7_readWalkLine_39 : decode cX7_readWalkLine 39 = .ok (.invokevirtual 53, 3) := dz_at dqX7_readWalkLine_p211 10 rfl
theorem dX7_readWalkLine_42 : decode cX7_readWalkLine 42 = .ok (.iastore, 1) := dz_at dqX7_readWalkLine_p211 11 rfl
theorem dX7_readWalkLine_43 : decode cX7_readWalkLine 43 = .ok (.aload_n 1, 1) := dz_at dqX7_readWalkLine_p211 12 rfl
theorem dX7_readWalkLine_44 : decode cX7_readWalkLine 44 = .ok (.getfield 73, 3) := dz_at dqX7_readWalkLine_p211 13 rfl
set_option maxRecDepth 20000 in
theorem dqX7_readWalkLine_p212 : dz_rn 47 (cX7_readWalkLine.data.toList.drop 47) [(0, 2), (0, 10), (0, 13), (4, 1), (0, 9), (4, 0), (0, 8), (0, 12)] = some [(47, .iload_n 2, 1), (48, .iaload, 1), (49, .iconst (-1), 1), (50, .if_icmp .eq 7, 3), (53, .iconst 1, 1), (54, .goto 4, 3), (57, .iconst 0, 1), (58, .ireturn, 1)] := by decide +kernel
theorem dX7_readWalkLine_47 : decode cX7_readWalkLine 47 = .ok (.iload_n 2, 1) := dz_at dqX7_readWalkLine_p212 0 rfl
theorem dX7_readWalkLine_48 : decode cX7_readWalkLine 48 = .ok (.iaload, 1) := dz_at dqX7_readWalkLine_p212 1 rfl
theorem dX7_readWalkLine_49 : decode cX7_readWalkLine 49 = .ok (.iconst (-1), 1) := dz_at dqX7_readWalkLine_p212 2 rfl
theorem dX7_readWalkLine_50 : decode cX7_readWalkLine 50 = .ok (.if_icmp .eq 7, 3) := dz_at dqX7_readWalkLine_p212 3 rfl
theorem dX7_readWalkLine_53 : decode cX7_readWalkLine 53 = .ok (.iconst 1, 1) := dz_at dqX7_readWalkLine_p212 4 rfl
theorem dX7_readWalkLine_54 : decode cX7_readWalkLine 54 = .ok (.goto 4, 3) := dz_at dqX7_readWalkLine_p212 5 rfl
theorem dX7_readWalkLine_57 : decode cX7_readWalkLine 57 = .ok (.iconst 0, 1) := dz_at dqX7_readWalkLine_p212 6 rfl
theorem dX7_readWalkLine_58 : decode cX7_readWalkLine 58 = .ok (.ireturn, 1) := dz_at dqX7_readWalkLine_p212 7 rfl
set_option maxRecDepth 20000 in
theorem ggX7_readNumber_X7_nextToken : GoodIn wsX7_readNumber wsX7_nextToken := goodIn_r _ [8, 1, 9, 3, 2, 10, 11, 7, 12, 13, 14, 15, 16, 17, 18, 19] rfl (by decide +kernel)
set_option maxRecDepth 20000 in
theorem gX7_readNumber_X7_nextToken : GoodIn wsX7_readNumber (wsV RX7 39 RX7 yX7_nextToken wsX7_nextToken) := goodIn_app (goodIn_of _ (by decide +kernel)) ggX7_readNumber_X7_nextToken
set_option maxRecDepth 20000 in
theorem ggX7_readNumber_X7_kindOf : GoodIn wsX7_readNumber wsX7_kindOf := goodIn_r _ [12, 13, 14, 15] rfl (by decide +kernel)
set_option maxRecDepth 20000 in
theorem gX7_readNumber_X7_kindOf : GoodIn wsX7_readNumber (va_wsS RX7 76 yX7_kindOf wsX7_kindOf) := goodIn_app (goodIn_of _ (by decide +kernel)) ggX7_readNumber_X7_kindOf
set_option maxRecDepth 20000 in
theorem ggX7_readNumber_X9_within : GoodIn wsX7_readNumber wsX9_within := goodIn_r _ [15] rfl (by decide +kernel)
set_option maxRecDepth 20000 in
theorem gX7_readNumber_X9_within_n80 : GoodIn wsX7_readNumber (wsX9_within) := ggX7_readNumber_X9_within
set_option maxRecDepth 20000 in
theorem dqX7_readNumber_p210 : dz_rn 0 (cX7_readNumber.data.toList.drop 0) [(0, 4), (3, 1), (0, 4), (3, 0), (0, 4), (3, 0), (0, 26), (0, 21), (0, 3), (0, 9), (4, 3), (0, 3), (0, 14), (4, 5)] = some [(0, .aload_n 0, 1), (1, .invokevirtual 39, 3), (4, .aload_n 0, 1), (5, .getfield 26, 3), (8, .aload_n 0, 1), (9, .getfield 33, 3), (12, .isub, 1), (13, .istore_n 3, 1), (14, .iload_n 3, 1), (15, .iconst 1, 1), (16, .if_icmp .lt 24, 3), (19, .iload_n 3, 1), (20, .iconst 2, 1), (21, .if_icmp .gt 19, 3)] := by decide +kernel
theorem dX7_readNumber_0 : decode cX7_readNumber 0 = .ok (.aload_n 0, 1) := dz_at dqX7_readNumber_p210 0 rfl
theorem dX7_readNumber_1 : decode cX7_readNumber 1 = .ok (.invokevirtual 39, 3) := dz_at dqX7_readNumber_p210 1 rfl
theorem dX7_readNumber_4 : decode cX7_readNumber 4 = .ok (.aload_n 0, 1) := dz_at dqX7_readNumber_p210 2 rfl
theorem dX7_readNumber_5 : decode cX7_readNumber 5 = .ok (.getfield 26, 3) := dz_at dqX7_readNumber_p210 3 rfl
theorem dX7_readNumber_8 : decode cX7_readNumber 8 = .ok (.aload_n 0, 1) := dz_at dqX7_readNumber_p210 4 rfl
theorem dX7_readNumber_9 : decode cX7_readNumber 9 = .ok (.getfield 33, 3) := dz_at dqX7_readNumber_p210 5 rfl
theorem dX7_readNumber_12 : decode cX7_readNumber 12 = .ok (.isub, 1) := dz_at dqX7_readNumber_p210 6 rfl
theorem dX7_readNumber_13 : decode cX7_readNumber 13 = .ok (.istore_n 3, 1) := dz_at dqX7_readNumber_p210 7 rfl
theorem dX7_readNumber_14 : decode cX7_readNumber 14 = .ok (.iload_n 3, 1) := dz_at dqX7_readNumber_p210 8 rfl
theorem dX7_readNumber_15 : decode cX7_readNumber 15 = .ok (.iconst 1, 1) := dz_at dqX7_readNumber_p210 9 rfl
theorem dX7_readNumber_16 : decode cX7_readNumber 16 = .ok (.if_icmp .lt 24, 3) := dz_at dqX7_readNumber_p210 10 rfl
theorem dX7_readNumber_19 : decode cX7_readNumber 19 = .ok (.iload_n 3, 1) := dz_at dqX7_readNumber_p210 11 rfl
theorem dX7_readNumber_20 : decode cX7_readNumber 20 = .ok (.iconst 2, 1) := dz_at dqX7_readNumber_p210 12 rfl
theorem dX7_readNumber_21 : decode cX7_readNumber 21 = .ok (.if_icmp .gt 19, 3) := dz_at dqX7_readNumber_p210 13 rfl
set_option maxRecDepth 20000 in
theorem dqX7_readNumber_p211 : dz_rn 24 (cX7_readNumber.data.toList.drop 24) [(0, 4), (3, 0), (0, 4), (3, 0), (0, 10), (3, 2), (0, 14), (4, 1), (0, 13), (0, 12), (0, 8), (1, 1), (0, 4), (3, 0)] = some [(24, .aload_n 0, 1), (25, .getfield 9, 3), (28, .aload_n 0, 1), (29, .getfield 33, 3), (32, .iaload, 1), (33, .invokestatic 76, 3), (36, .iconst 2, 1), (37, .if_icmp .eq 5, 3), (40, .iconst (-1), 1), (41, .ireturn, 1), (42, .iconst 0, 1), (43, .istore 4, 2), (45, .aload_n 0, 1), (46, .getfield 33, 3)] := by decide +kernel
theorem dX7_readNumber_24 : decode cX7_readNumber 24 = .ok (.aload_n 0, 1) := dz_at dqX7_readNumber_p211 0 rfl
theorem dX7_readNumber_25 : decode cX7_readNumber 25 = .ok (.getfield 9, 3) := dz_at dqX7_readNumber_p211 1 rfl
theorem dX7_readNumber_28 : decode cX7_readNumber 28 = .ok (.aload_n 0, 1) := dz_at dqX7_readNumber_p211 2 rfl
theorem dX7_readNumber_29 : decode cX7_readNumber 29 = .ok (.getfield 33, 3) := dz_at dqX7_readNumber_p211 3 rfl
theorem dX7_readNumber_32 : decode cX7_readNumber 32 = .ok (.iaload, 1) := dz_at dqX7_readNumber_p211 4 rfl
theorem dX7_readNumber_33 : decode cX7_readNumber 33 = .ok (.invokestatic 76, 3) := dz_at dqX7_readNumber_p211 5 rfl
theorem dX7_readNumber_36 : decode cX7_readNumber 36 = .ok (.iconst 2, 1) := dz_at dqX7_readNumber_p211 6 rfl
theorem dX7_readNumber_37 : decode cX7_readNumber 37 = .ok (.if_icmp .eq 5, 3) := dz_at dqX7_readNumber_p211 7 rfl
theorem dX7_readNumber_40 : decode cX7_readNumber 40 = .ok (.iconst (-1), 1) := dz_at dqX7_readNumber_p211 8 rfl
theorem dX7_readNumber_41 : decode cX7_readNumber 41 = .ok (.ireturn, 1) := dz_at dqX7_readNumber_p211 9 rfl
theorem dX7_readNumber_42 : decode cX7_readNumber 42 = .ok (.iconst 0, 1) := dz_at dqX7_readNumber_p211 10 rfl
theorem dX7_readNumber_43 : decode cX7_readNumber 43 = .ok (.istore 4, 2) := dz_at dqX7_readNumber_p211 11 rfl
theorem dX7_readNumber_45 : decode cX7_readNumber 45 = .ok (.aload_n 0, 1) := dz_at dqX7_readNumber_p211 12 rfl
theorem dX7_readNumber_46 : decode cX7_readNumber 46 = .ok (.getfield 33, 3) := dz_at dqX7_readNumber_p211 13 rfl
set_option maxRecDepth 20000 in
theorem dqX7_readNumber_p212 : dz_rn 49 (cX7_readNumber.data.toList.drop 49) [(1, 1), (1, 0), (0, 4), (3, 0), (4, 4), (1, 0), (2, 0), (0, 23), (0, 4), (3, 0), (1, 0), (0, 10), (0, 11), (2, 0)] = some [(49, .istore 5, 2), (51, .iload 5, 2), (53, .aload_n 0, 1), (54, .getfield 26, 3), (57, .if_icmp .ge 27, 3), (60, .iload 4, 2), (62, .bipush 10, 2), (64, .imul, 1), (65, .aload_n 0, 1), (66, .getfield 9, 3), (69, .iload 5, 2), (71, .iaload, 1), (72, .iadd, 1), (73, .bipush 48, 2)] := by decide +kernel
theorem dX7_readNumber_49 : decode cX7_readNumber 49 = .ok (.istore 5, 2) := dz_at dqX7_readNumber_p212 0 rfl
theorem dX7_readNumber_51 : decode cX7_readNumber 51 = .ok (.iload 5, 2) := dz_at dqX7_readNumber_p212 1 rfl
theorem dX7_readNumber_53 : decode cX7_readNumber 53 = .ok (.aload_n 0, 1) := dz_at dqX7_readNumber_p212 2 rfl
theorem dX7_readNumber_54 : decode cX7_readNumber 54 = .ok (.getfield 26, 3) := dz_at dqX7_readNumber_p212 3 rfl
theorem dX7_readNumber_57 : decode cX7_readNumber 57 = .ok (.if_icmp .ge 27, 3) := dz_at dqX7_readNumber_p212 4 rfl
theorem dX7_readNumber_60 : decode cX7_readNumber 60 = .ok (.iload 4, 2) := dz_at dqX7_readNumber_p212 5 rfl
theorem dX7_readNumber_62 : decode cX7_readNumber 62 = .ok (.bipush 10, 2) := dz_at dqX7_readNumber_p212 6 rfl
theorem dX7_readNumber_64 : decode cX7_readNumber 64 = .ok (.imul, 1) := dz_at dqX7_readNumber_p212 7 rfl
theorem dX7_readNumber_65 : decode cX7_readNumber 65 = .ok (.aload_n 0, 1) := dz_at dqX7_readNumber_p212 8 rfl
theorem dX7_readNumber_66 : decode cX7_readNumber 66 = .ok (.getfield 9, 3) := dz_at dqX7_readNumber_p212 9 rfl
theorem dX7_readNumber_69 : decode cX7_readNumber 69 = .ok (.iload 5, 2) := dz_at dqX7_readNumber_p212 10 rfl
theorem dX7_readNumber_71 : decode cX7_readNumber 71 = .ok (.iaload, 1) := dz_at dqX7_readNumber_p212 11 rfl
theorem dX7_readNumber_72 : decode cX7_readNumber 72 = .ok (.iadd, 1) := dz_at dqX7_readNumber_p212 12 rfl
theorem dX7_readNumber_73 : decode cX7_readNumber 73 = .ok (.bipush 48, 2) := dz_at dqX7_readNumber_p212 13 rfl
set_option maxRecDepth 20000 in
theorem dqX7_readNumber_p213 : dz_rn 75 (cX7_readNumber.data.toList.drop 75) [(0, 26), (1, 1), (5, 0), (4, 0), (1, 0), (0, 1), (0, 2), (3, 2), (4, 7), (1, 0), (4, 0), (0, 13), (0, 12)] = some [(75, .isub, 1), (76, .istore 4, 2), (78, .iinc 5 1, 3), (81, .goto (-30), 3), (84, .iload 4, 2), (86, .iload_n 1, 1), (87, .iload_n 2, 1), (88, .invokestatic 80, 3), (91, .ifCond .eq 8, 3), (94, .iload 4, 2), (96, .goto 4, 3), (99, .iconst (-1), 1), (100, .ireturn, 1)] := by decide +kernel
theorem dX7_readNumber_75 : decode cX7_readNumber 75 = .ok (.isub, 1) := dz_at dqX7_readNumber_p213 0 rfl
theorem dX7_readNumber_76 : decode cX7_readNumber 76 = .ok (.istore 4, 2) := dz_at dqX7_readNumber_p213 1 rfl
theorem dX7_readNumber_78 : decode cX7_readNumber 78 = .ok (.iinc 5 1, 3) := dz_at dqX7_readNumber_p213 2 rfl
theorem dX7_readNumber_81 : decode cX7_readNumber 81 = .ok (.goto (-30), 3) := dz_at dqX7_readNumber_p213 3 rfl
theorem dX7_readNumber_84 : decode cX7_readNumber 84 = .ok (.iload 4, 2) := dz_at dqX7_readNumber_p213 4 rfl
theorem dX7_readNumber_86 : decode cX7_readNumber 86 = .ok (.iload_n 1, 1) := dz_at dqX7_readNumber_p213 5 rfl
theorem dX7_readNumber_87 : decode cX7_readNumber 87 = .ok (.iload_n 2, 1) := dz_at dqX7_readNumber_p213 6 rfl
theorem dX7_readNumber_88 : decode cX7_readNumber 88 = .ok (.invokestatic 80, 3) := dz_at dqX7_readNumber_p213 7 rfl
theorem dX7_readNumber_91 : decode cX7_readNumber 91 = .ok (.ifCond .eq 8, 3) := dz_at dqX7_readNumber_p213 8 rfl
theorem dX7_readNumber_94 : decode cX7_readNumber 94 = .ok (.iload 4, 2) := dz_at dqX7_readNumber_p213 9 rfl
theorem dX7_readNumber_96 : decode cX7_readNumber 96 = .ok (.goto 4, 3) := dz_at dqX7_readNumber_p213 10 rfl
theorem dX7_readNumber_99 : decode cX7_readNumber 99 = .ok (.iconst (-1), 1) := dz_at dqX7_readNumber_p213 11 rfl
theorem dX7_readNumber_100 : decode cX7_readNumber 100 = .ok (.ireturn, 1) := dz_at dqX7_readNumber_p213 12 rfl
set_option maxRecDepth 20000 in
theorem ggX7_nextToken_X7_kindOf : GoodIn wsX7_nextToken wsX7_kindOf := goodIn_r _ [8, 9, 10, 11] rfl (by decide +kernel)
set_option maxRecDepth 20000 in
theorem gX7_nextToken_X7_kindOf : GoodIn wsX7_nextToken (va_wsS RX7 76 yX7_kindOf wsX7_kindOf) := goodIn_app (goodIn_of _ (by decide +kernel)) ggX7_nextToken_X7_kindOf
set_option maxRecDepth 20000 in
theorem dqX7_nextToken_p210 : dz_rn 0 (cX7_nextToken.data.toList.drop 0) [(0, 4), (3, 0), (0, 19), (0, 1), (0, 4), (3, 0), (4, 4), (0, 4), (3, 0), (0, 1), (0, 10), (2, 0), (4, 2), (5, 0)] = some [(0, .aload_n 0, 1), (1, .getfield 26, 3), (4, .istore_n 1, 1), (5, .iload_n 1, 1), (6, .aload_n 0, 1), (7, .getfield 15, 3), (10, .if_icmp .ge 20, 3), (13, .aload_n 0, 1), (14, .getfield 9, 3), (17, .iload_n 1, 1), (18, .iaload, 1), (19, .bipush 32, 2), (21, .if_icmp .ne 9, 3), (24, .iinc 1 1, 3)] := by decide +kernel
theorem dX7_nextToken_0 : decode cX7_nextToken 0 = .ok (.aload_n 0, 1) := dz_at dqX7_nextToken_p210 0 rfl
theorem dX7_nextToken_1 : decode cX7_nextToken 1 = .ok (.getfield 26, 3) := dz_at dqX7_nextToken_p210 1 rfl
theorem dX7_nextToken_4 : decode cX7_nextToken 4 = .ok (.istore_n 1, 1) := dz_at dqX7_nextToken_p210 2 rfl
theorem dX7_nextToken_5 : decode cX7_nextToken 5 = .ok (.iload_n 1, 1) := dz_at dqX7_nextToken_p210 3 rfl
theorem dX7_nextToken_6 : decode cX7_nextToken 6 = .ok (.aload_n 0, 1) := dz_at dqX7_nextToken_p210 4 rfl
theorem dX7_nextToken_7 : decode cX7_nextToken 7 = .ok (.getfield 15, 3) := dz_at dqX7_nextToken_p210 5 rfl
theorem dX7_nextToken_10 : decode cX7_nextToken 10 = .ok (.if_icmp .ge 20, 3) := dz_at dqX7_nextToken_p210 6 rfl
theorem dX7_nextToken_13 : decode cX7_nextToken 13 = .ok (.aload_n 0, 1) := dz_at dqX7_nextToken_p210 7 rfl
theorem dX7_nextToken_14 : decode cX7_nextToken 14 = .ok (.getfield 9, 3) := dz_at dqX7_nextToken_p210 8 rfl
theorem dX7_nextToken_17 : decode cX7_nextToken 17 = .ok (.iload_n 1, 1) := dz_at dqX7_nextToken_p210 9 rfl
theorem dX7_nextToken_18 : decode cX7_nextToken 18 = .ok (.iaload, 1) := dz_at dqX7_nextToken_p210 10 rfl
theorem dX7_nextToken_19 : decode cX7_nextToken 19 = .ok (.bipush 32, 2) := dz_at dqX7_nextToken_p210 11 rfl
theorem dX7_nextToken_21 : decode cX7_nextToken 21 = .ok (.if_icmp .ne 9, 3) := dz_at dqX7_nextToken_p210 12 rfl
theorem dX7_nextToken_24 : decode cX7_nextToken 24 = .ok (.iinc 1 1, 3) := dz_at dqX7_nextToken_p210 13 rfl
set_option maxRecDepth 20000 in
theorem dqX7_nextToken_p211 : dz_rn 27 (cX7_nextToken.data.toList.drop 27) [(4, 0), (0, 4), (0, 1), (3, 3), (0, 1), (0, 4), (3, 0), (4, 4), (0, 4), (3, 0), (0, 1), (0, 10), (3, 2), (0, 20)] = some [(27, .goto (-22), 3), (30, .aload_n 0, 1), (31, .iload_n 1, 1), (32, .putfield 33, 3), (35, .iload_n 1, 1), (36, .aload_n 0, 1), (37, .getfield 15, 3), (40, .if_icmp .ge 48, 3), (43, .aload_n 0, 1), (44, .getfield 9, 3), (47, .iload_n 1, 1), (48, .iaload, 1), (49, .invokestatic 76, 3), (52, .istore_n 2, 1)] := by decide +kernel
theorem dX7_nextToken_27 : decode cX7_nextToken 27 = .ok (.goto (-22), 3) := dz_at dqX7_nextToken_p211 0 rfl
theorem dX7_nextToken_30 : decode cX7_nextToken 30 = .ok (.aload_n 0, 1) := dz_at dqX7_nextToken_p211 1 rfl
theorem dX7_nextToken_31 : decode cX7_nextToken 31 = .ok (.iload_n 1, 1) := dz_at dqX7_nextToken_p211 2 rfl
theorem dX7_nextToken_32 : decode cX7_nextToken 32 = .ok (.putfield 33, 3) := dz_at dqX7_nextToken_p211 3 rfl
theorem dX7_nextToken_35 : decode cX7_nextToken 35 = .ok (.iload_n 1, 1) := dz_at dqX7_nextToken_p211 4 rfl
theorem dX7_nextToken_36 : decode cX7_nextToken 36 = .ok (.aload_n 0, 1) := dz_at dqX7_nextToken_p211 5 rfl
theorem dX7_nextToken_37 : decode cX7_nextToken 37 = .ok (.getfield 15, 3) := dz_at dqX7_nextToken_p211 6 rfl
theorem dX7_nextToken_40 : decode cX7_nextToken 40 = .ok (.if_icmp .ge 48, 3) := dz_at dqX7_nextToken_p211 7 rfl
theorem dX7_nextToken_43 : decode cX7_nextToken 43 = .ok (.aload_n 0, 1) := dz_at dqX7_nextToken_p211 8 rfl
theorem dX7_nextToken_44 : decode cX7_nextToken 44 = .ok (.getfield 9, 3) := dz_at dqX7_nextToken_p211 9 rfl
theorem dX7_nextToken_47 : decode cX7_nextToken 47 = .ok (.iload_n 1, 1) := dz_at dqX7_nextToken_p211 10 rfl
theorem dX7_nextToken_48 : decode cX7_nextToken 48 = .ok (.iaload, 1) := dz_at dqX7_nextToken_p211 11 rfl
theorem dX7_nextToken_49 : decode cX7_nextToken 49 = .ok (.invokestatic 76, 3) := dz_at dqX7_nextToken_p211 12 rfl
theorem dX7_nextToken_52 : decode cX7_nextToken 52 = .ok (.istore_n 2, 1) := dz_at dqX7_nextToken_p211 13 rfl
set_option maxRecDepth 20000 in
theorem dqX7_nextToken_p212 : dz_rn 53 (cX7_nextToken.data.toList.drop 53) [(5, 0), (0, 2), (0, 15), (4, 1), (0, 1), (0, 4), (3, 0), (4, 4), (0, 4), (3, 0), (0, 1), (0, 10), (3, 2), (0, 2)] = some [(53, .iinc 1 1, 3), (56, .iload_n 2, 1), (57, .iconst 3, 1), (58, .if_icmp .eq 30, 3), (61, .iload_n 1, 1), (62, .aload_n 0, 1), (63, .getfield 15, 3), (66, .if_icmp .ge 22, 3), (69, .aload_n 0, 1), (70, .getfield 9, 3), (73, .iload_n 1, 1), (74, .iaload, 1), (75, .invokestatic 76, 3), (78, .iload_n 2, 1)] := by decide +kernel
theorem dX7_nextToken_53 : decode cX7_nextToken 53 = .ok (.iinc 1 1, 3) := dz_at dqX7_nextToken_p212 0 rfl
theorem dX7_nextToken_56 : decode cX7_nextToken 56 = .ok (.iload_n 2, 1) := dz_at dqX7_nextToken_p212 1 rfl
theorem dX7_nextToken_57 : decode cX7_nextToken 57 = .ok (.iconst 3, 1) := dz_at dqX7_nextToken_p212 2 rfl
theorem dX7_nextToken_58 : decode cX7_nextToken 58 = .ok (.if_icmp .eq 30, 3) := dz_at dqX7_nextToken_p212 3 rfl
theorem dX7_nextToken_61 : decode cX7_nextToken 61 = .ok (.iload_n 1, 1) := dz_at dqX7_nextToken_p212 4 rfl
theorem dX7_nextToken_62 : decode cX7_nextToken 62 = .ok (.aload_n 0, 1) := dz_at dqX7_nextToken_p212 5 rfl
theorem dX7_nextToken_63 : decode cX7_nextToken 63 = .ok (.getfield 15, 3) := dz_at dqX7_nextToken_p212 6 rfl
theorem dX7_nextToken_66 : decode cX7_nextToken 66 = .ok (.if_icmp .ge 22, 3) := dz_at dqX7_nextToken_p212 7 rfl
theorem dX7_nextToken_69 : decode cX7_nextToken 69 = .ok (.aload_n 0, 1) := dz_at dqX7_nextToken_p212 8 rfl
theorem dX7_nextToken_70 : decode cX7_nextToken 70 = .ok (.getfield 9, 3) := dz_at dqX7_nextToken_p212 9 rfl
theorem dX7_nextToken_73 : decode cX7_nextToken 73 = .ok (.iload_n 1, 1) := dz_at dqX7_nextToken_p212 10 rfl
theorem dX7_nextToken_74 : decode cX7_nextToken 74 = .ok (.iaload, 1) := dz_at dqX7_nextToken_p212 11 rfl
theorem dX7_nextToken_75 : decode cX7_nextToken 75 = .ok (.invokestatic 76, 3) := dz_at dqX7_nextToken_p212 12 rfl
theorem dX7_nextToken_78 : decode cX7_nextToken 78 = .ok (.iload_n 2, 1) := dz_at dqX7_nextToken_p212 13 rfl
set_option maxRecDepth 20000 in
theorem dqX7_nextToken_p213 : dz_rn 79 (cX7_nextToken.data.toList.drop 79) [(4, 2), (5, 0), (4, 0), (0, 4), (0, 1), (3, 3), (0, 25)] = some [(79, .if_icmp .ne 9, 3), (82, .iinc 1 1, 3), (85, .goto (-29), 3), (88, .aload_n 0, 1), (89, .iload_n 1, 1), (90, .putfield 26, 3), (93, .return_, 1)] := by decide +kernel
theorem dX7_nextToken_79 : decode cX7_nextToken 79 = .ok (.if_icmp .ne 9, 3) := dz_at dqX7_nextToken_p213 0 rfl
theorem dX7_nextToken_82 : decode cX7_nextToken 82 = .ok (.iinc 1 1, 3) := dz_at dqX7_nextToken_p213 1 rfl
theorem dX7_nextToken_85 : decode cX7_nextToken 85 = .ok (.goto (-29), 3) := dz_at dqX7_nextToken_p213 2 rfl
theorem dX7_nextToken_88 : decode cX7_nextToken 88 = .ok (.aload_n 0, 1) := dz_at dqX7_nextToken_p213 3 rfl
theorem dX7_nextToken_89 : decode cX7_nextToken 89 = .ok (.iload_n 1, 1) := dz_at dqX7_nextToken_p213 4 rfl
theorem dX7_nextToken_90 : decode cX7_nextToken 90 = .ok (.putfield 26, 3) := dz_at dqX7_nextToken_p213 5 rfl
theorem dX7_nextToken_93 : decode cX7_nextToken 93 = .ok (.return_, 1) := dz_at dqX7_nextToken_p213 6 rfl
set_option maxRecDepth 20000 in
theorem ggX7_tokenIs_J0_length_8abf5 : GoodIn wsX7_tokenIs wsJ0_length_8abf5 := goodIn_r _ [8, 9, 10, 11, 12, 7, 13, 14, 15] rfl (by decide +kernel)
set_option maxRecDepth 20000 in
theorem gX7_tokenIs_J0_length_8abf5 : GoodIn wsX7_tokenIs (wsV RX7 84 RJ0 yJ0_length_8abf5 wsJ0_length_8abf5) := goodIn_app (goodIn_of _ (by decide +kernel)) ggX7_tokenIs_J0_length_8abf5
set_option maxRecDepth 20000 in
theorem ggX7_tokenIs_J0_charAt_5068e : GoodIn wsX7_tokenIs wsJ0_charAt_5068e := goodIn_r _ [19, 9, 20, 21, 22, 7, 23, 14, 15, 24, 25, 26, 27, 28, 29, 30, 31, 32, 33, 34, 35, 36, 37, 38, 39, 40, 41, 42, 43, 44, 45, 46, 47, 48, 49, 50, 51, 52] rfl (by decide +kernel)
set_option maxRecDepth 20000 in
theorem gX7_tokenIs_J0_charAt_5068e : GoodIn wsX7_tokenIs (wsV RX7 89 RJ0 yJ0_charAt_5068e wsJ0_charAt_5068e) := goodIn_app (goodIn_of _ (by decide +kernel)) ggX7_tokenIs_J0_charAt_5068e
set_option maxRecDepth 20000 in
theorem dqX7_tokenIs_p210 : dz_rn 0 (cX7_tokenIs.data.toList.drop 0) [(0, 4), (3, 0), (0, 4), (3, 0), (0, 26), (0, 5), (3, 1), (4, 1), (0, 8), (0, 12), (0, 8), (0, 20), (0, 2), (0, 5)] = some [(0, .aload_n 0, 1), (1, .getfield 26, 3), (4, .aload_n 0, 1), (5, .getfield 33, 3), (8, .isub, 1), (9, .aload_n 1, 1), (10, .invokevirtual 84, 3), (13, .if_icmp .eq 5, 3), (16, .iconst 0, 1), (17, .ireturn, 1), (18, .iconst 0, 1), (19, .istore_n 2, 1), (20, .iload_n 2, 1), (21, .aload_n 1, 1)] := by decide +kernel
theorem dX7_tokenIs_0 : decode cX7_tokenIs 0 = .ok (.aload_n 0, 1) := dz_at dqX7_tokenIs_p210 0 rfl
theorem dX7_tokenIs_1 : decode cX7_tokenIs 1 = .ok (.getfield 26, 3) := dz_at dqX7_tokenIs_p210 1 rfl
theorem dX7_tokenIs_4 : decode cX7_tokenIs 4 = .ok (.aload_n 0, 1) := dz_at dqX7_tokenIs_p210 2 rfl
theorem dX7_tokenIs_5 : decode cX7_tokenIs 5 = .ok (.getfield 33, 3) := dz_at dqX7_tokenIs_p210 3 rfl
theorem dX7_tokenIs_8 : decode cX7_tokenIs 8 = .ok (.isub, 1) := dz_at dqX7_tokenIs_p210 4 rfl
theorem dX7_tokenIs_9 : decode cX7_tokenIs 9 = .ok (.aload_n 1, 1) := dz_at dqX7_tokenIs_p210 5 rfl
theorem dX7_tokenIs_10 : decode cX7_tokenIs 10 = .ok (.invokevirtual 84, 3) := dz_at dqX7_tokenIs_p210 6 rfl
theorem dX7_tokenIs_13 : decode cX7_tokenIs 13 = .ok (.if_icmp .eq 5, 3) := dz_at dqX7_tokenIs_p210 7 rfl
theorem dX7_tokenIs_16 : decode cX7_tokenIs 16 = .ok (.iconst 0, 1) := dz_at dqX7_tokenIs_p210 8 rfl
theorem dX7_tokenIs_17 : decode cX7_tokenIs 17 = .ok (.ireturn, 1) := dz_at dqX7_tokenIs_p210 9 rfl
theorem dX7_tokenIs_18 : decode cX7_tokenIs 18 = .ok (.iconst 0, 1) := dz_at dqX7_tokenIs_p210 10 rfl
theorem dX7_tokenIs_19 : decode cX7_tokenIs 19 = .ok (.istore_n 2, 1) := dz_at dqX7_tokenIs_p210 11 rfl
theorem dX7_tokenIs_20 : decode cX7_tokenIs 20 = .ok (.iload_n 2, 1) := dz_at dqX7_tokenIs_p210 12 rfl
theorem dX7_tokenIs_21 : decode cX7_tokenIs 21 = .ok (.aload_n 1, 1) := dz_at dqX7_tokenIs_p210 13 rfl
set_option maxRecDepth 20000 in
theorem dqX7_tokenIs_p211 : dz_rn 22 (cX7_tokenIs.data.toList.drop 22) [(3, 1), (4, 4), (0, 4), (3, 0), (0, 4), (3, 0), (0, 2), (0, 11), (0, 10), (0, 5), (0, 2), (3, 1), (4, 1), (0, 8)] = some [(22, .invokevirtual 84, 3), (25, .if_icmp .ge 30, 3), (28, .aload_n 0, 1), (29, .getfield 9, 3), (32, .aload_n 0, 1), (33, .getfield 33, 3), (36, .iload_n 2, 1), (37, .iadd, 1), (38, .iaload, 1), (39, .aload_n 1, 1), (40, .iload_n 2, 1), (41, .invokevirtual 89, 3), (44, .if_icmp .eq 5, 3), (47, .iconst 0, 1)] := by decide +kernel
theorem dX7_tokenIs_22 : decode cX7_tokenIs 22 = .ok (.invokevirtual 84, 3) := dz_at dqX7_tokenIs_p211 0 rfl
theorem dX7_tokenIs_25 : decode cX7_tokenIs 25 = .ok (.if_icmp .ge 30, 3) := dz_at dqX7_tokenIs_p211 1 rfl
theorem dX7_tokenIs_28 : decode cX7_tokenIs 28 = .ok (.aload_n 0, 1) := dz_at dqX7_tokenIs_p211 2 rfl
theorem dX7_tokenIs_29 : decode cX7_tokenIs 29 = .ok (.getfield 9, 3) := dz_at dqX7_tokenIs_p211 3 rfl
theorem dX7_tokenIs_32 : decode cX7_tokenIs 32 = .ok (.aload_n 0, 1) := dz_at dqX7_tokenIs_p211 4 rfl
theorem dX7_tokenIs_33 : decode cX7_tokenIs 33 = .ok (.getfield 33, 3) := dz_at dqX7_tokenIs_p211 5 rfl
theorem dX7_tokenIs_36 : decode cX7_tokenIs 36 = .ok (.iload_n 2, 1) := dz_at dqX7_tokenIs_p211 6 rfl
theorem dX7_tokenIs_37 : decode cX7_tokenIs 37 = .ok (.iadd, 1) := dz_at dqX7_tokenIs_p211 7 rfl
theorem dX7_tokenIs_38 : decode cX7_tokenIs 38 = .ok (.iaload, 1) := dz_at dqX7_tokenIs_p211 8 rfl
theorem dX7_tokenIs_39 : decode cX7_tokenIs 39 = .ok (.aload_n 1, 1) := dz_at dqX7_tokenIs_p211 9 rfl
theorem dX7_tokenIs_40 : decode cX7_tokenIs 40 = .ok (.iload_n 2, 1) := dz_at dqX7_tokenIs_p211 10 rfl
theorem dX7_tokenIs_41 : decode cX7_tokenIs 41 = .ok (.invokevirtual 89, 3) := dz_at dqX7_tokenIs_p211 11 rfl
theorem dX7_tokenIs_44 : decode cX7_tokenIs 44 = .ok (.if_icmp .eq 5, 3) := dz_at dqX7_tokenIs_p211 12 rfl
theorem dX7_tokenIs_47 : decode cX7_tokenIs 47 = .ok (.iconst 0, 1) := dz_at dqX7_tokenIs_p211 13 rfl
set_option maxRecDepth 20000 in
theorem dqX7_tokenIs_p212 : dz_rn 48 (cX7_tokenIs.data.toList.drop 48) [(0, 12), (5, 0), (4, 0), (0, 9), (0, 12)] = some [(48, .ireturn, 1), (49, .iinc 2 1, 3), (52, .goto (-32), 3), (55, .iconst 1, 1), (56, .ireturn, 1)] := by decide +kernel
theorem dX7_tokenIs_48 : decode cX7_tokenIs 48 = .ok (.ireturn, 1) := dz_at dqX7_tokenIs_p212 0 rfl
theorem dX7_tokenIs_49 : decode cX7_tokenIs 49 = .ok (.iinc 2 1, 3) := dz_at dqX7_tokenIs_p212 1 rfl
theorem dX7_tokenIs_52 : decode cX7_tokenIs 52 = .ok (.goto (-32), 3) := dz_at dqX7_tokenIs_p212 2 rfl
theorem dX7_tokenIs_55 : decode cX7_tokenIs 55 = .ok (.iconst 1, 1) := dz_at dqX7_tokenIs_p212 3 rfl
theorem dX7_tokenIs_56 : decode cX7_tokenIs 56 = .ok (.ireturn, 1) := dz_at dqX7_tokenIs_p212 4 rfl
set_option maxRecDepth 20000 in
theorem ggX7_kindOf_X9_within : GoodIn wsX7_kindOf wsX9_within := goodIn_r _ [3] rfl (by decide +kernel)
set_option maxRecDepth 20000 in
theorem gX7_kindOf_X9_within_n80 : GoodIn wsX7_kindOf (wsX9_within) := ggX7_kindOf_X9_within
set_option maxRecDepth 20000 in
theorem dqX7_kindOf_p210 : dz_rn 0 (cX7_kindOf.data.toList.drop 0) [(0, 0), (2, 0), (2, 0), (3, 2), (4, 7), (0, 9), (0, 12), (0, 0), (2, 0), (2, 0), (3, 2), (4, 7), (0, 14), (4, 0)] = some [(0, .iload_n 0, 1), (1, .bipush 97, 2), (3, .bipush 122, 2), (5, .invokestatic 80, 3), (8, .ifCond .eq 5, 3), (11, .iconst 1, 1), (12, .ireturn, 1), (13, .iload_n 0, 1), (14, .bipush 48, 2), (16, .bipush 57, 2), (18, .invokestatic 80, 3), (21, .ifCond .eq 7, 3), (24, .iconst 2, 1), (25, .goto 4, 3)] := by decide +kernel
theorem dX7_kindOf_0 : decode cX7_kindOf 0 = .ok (.iload_n 0, 1) := dz_at dqX7_kindOf_p210 0 rfl
theorem dX7_kindOf_1 : decode cX7_kindOf 1 = .ok (.bipush 97, 2) := dz_at dqX7_kindOf_p210 1 rfl
theorem dX7_kindOf_3 : decode cX7_kindOf 3 = .ok (.bipush 122, 2) := dz_at dqX7_kindOf_p210 2 rfl
theorem dX7_kindOf_5 : decode cX7_kindOf 5 = .ok (.invokestatic 80, 3) := dz_at dqX7_kindOf_p210 3 rfl
theorem dX7_kindOf_8 : decode cX7_kindOf 8 = .ok (.ifCond .eq 5, 3) := dz_at dqX7_kindOf_p210 4 rfl
theorem dX7_kindOf_11 : decode cX7_kindOf 11 = .ok (.iconst 1, 1) := dz_at dqX7_kindOf_p210 5 rfl
theorem dX7_kindOf_12 : decode cX7_kindOf 12 = .ok (.ireturn, 1) := dz_at dqX7_kindOf_p210 6 rfl
theorem dX7_kindOf_13 : decode cX7_kindOf 13 = .ok (.iload_n 0, 1) := dz_at dqX7_kindOf_p210 7 rfl
theorem dX7_kindOf_14 : decode cX7_kindOf 14 = .ok (.bipush 48, 2) := dz_at dqX7_kindOf_p210 8 rfl
theorem dX7_kindOf_16 : decode cX7_kindOf 16 = .ok (.bipush 57, 2) := dz_at dqX7_kindOf_p210 9 rfl
theorem dX7_kindOf_18 : decode cX7_kindOf 18 = .ok (.invokestatic 80, 3) := dz_at dqX7_kindOf_p210 10 rfl
theorem dX7_kindOf_21 : decode cX7_kindOf 21 = .ok (.ifCond .eq 7, 3) := dz_at dqX7_kindOf_p210 11 rfl
theorem dX7_kindOf_24 : decode cX7_kindOf 24 = .ok (.iconst 2, 1) := dz_at dqX7_kindOf_p210 12 rfl
theorem dX7_kindOf_25 : decode cX7_kindOf 25 = .ok (.goto 4, 3) := dz_at dqX7_kindOf_p210 13 rfl
set_option maxRecDepth 20000 in
theorem dqX7_kindOf_p211 : dz_rn 28 (cX7_kindOf.data.toList.drop 28) [(0, 15), (0, 12)] = some [(28, .iconst 3, 1), (29, .ireturn, 1)] := by decide +kernel
theorem dX7_kindOf_28 : decode cX7_kindOf 28 = .ok (.iconst 3, 1) := dz_at dqX7_kindOf_p211 0 rfl
theorem dX7_kindOf_29 : decode cX7_kindOf 29 = .ok (.ireturn, 1) := dz_at dqX7_kindOf_p211 1 rfl
