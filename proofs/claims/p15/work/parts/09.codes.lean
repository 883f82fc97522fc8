
set_option maxRecDepth 20000 in
theorem dqX0_init_p090 : dz_rn 0 (cX0_init.data.toList.drop 0) [(0, 4), (3, 5), (0, 4), (2, 0)] = some [(0, .aload_n 0, 1), (1, .invokespecial 3, 3), (4, .aload_n 0, 1), (5, .bipush 100, 2)] := by decide +kernel
theorem dX0_init_0 : decode cX0_init 0 = .ok (.aload_n 0, 1) := dz_at dqX0_init_p090 0 rfl
theorem dX0_init_1 : decode cX0_init 1 = .ok (.invokespecial 3, 3) := dz_at dqX0_init_p090 1 rfl
theorem dX0_init_4 : decode cX0_init 4 = .ok (.aload_n 0, 1) := dz_at dqX0_init_p090 2 rfl
theorem dX0_init_5 : decode cX0_init 5 = .ok (.bipush 100, 2) := dz_at dqX0_init_p090 3 rfl
theorem dX0_init_7 : decode cX0_init 7 = .ok (.newarray .int, 2) := by decide +kernel
set_option maxRecDepth 20000 in
theorem dqX0_init_p091 : dz_rn 9 (cX0_init.data.toList.drop 9) [(3, 3), (0, 4), (2, 0)] = some [(9, .putfield 9, 3), (12, .aload_n 0, 1), (13, .bipush 8, 2)] := by decide +kernel
theorem dX0_init_9 : decode cX0_init 9 = .ok (.putfield 9, 3) := dz_at dqX0_init_p091 0 rfl
theorem dX0_init_12 : decode cX0_init 12 = .ok (.aload_n 0, 1) := dz_at dqX0_init_p091 1 rfl
theorem dX0_init_13 : decode cX0_init 13 = .ok (.bipush 8, 2) := dz_at dqX0_init_p091 2 rfl
theorem dX0_init_15 : decode cX0_init 15 = .ok (.newarray .int, 2) := by decide +kernel
set_option maxRecDepth 20000 in
theorem dqX0_init_p092 : dz_rn 17 (cX0_init.data.toList.drop 17) [(3, 3), (0, 4), (2, 0)] = some [(17, .putfield 15, 3), (20, .aload_n 0, 1), (21, .bipush 6, 2)] := by decide +kernel
theorem dX0_init_17 : decode cX0_init 17 = .ok (.putfield 15, 3) := dz_at dqX0_init_p092 0 rfl
theorem dX0_init_20 : decode cX0_init 20 = .ok (.aload_n 0, 1) := dz_at dqX0_init_p092 1 rfl
theorem dX0_init_21 : decode cX0_init 21 = .ok (.bipush 6, 2) := dz_at dqX0_init_p092 2 rfl
theorem dX0_init_23 : decode cX0_init 23 = .ok (.newarray .int, 2) := by decide +kernel
set_option maxRecDepth 20000 in
theorem dqX0_init_p093 : dz_rn 25 (cX0_init.data.toList.drop 25) [(3, 3), (0, 4), (2, 0)] = some [(25, .putfield 18, 3), (28, .aload_n 0, 1), (29, .bipush 6, 2)] := by decide +kernel
theorem dX0_init_25 : decode cX0_init 25 = .ok (.putfield 18, 3) := dz_at dqX0_init_p093 0 rfl
theorem dX0_init_28 : decode cX0_init 28 = .ok (.aload_n 0, 1) := dz_at dqX0_init_p093 1 rfl
theorem dX0_init_29 : decode cX0_init 29 = .ok (.bipush 6, 2) := dz_at dqX0_init_p093 2 rfl
theorem dX0_init_31 : decode cX0_init 31 = .ok (.newarray .int, 2) := by decide +kernel
set_option maxRecDepth 20000 in
theorem dqX0_init_p094 : dz_rn 33 (cX0_init.data.toList.drop 33) [(3, 3), (0, 4), (0, 5), (3, 3), (0, 25)] = some [(33, .putfield 21, 3), (36, .aload_n 0, 1), (37, .aload_n 1, 1), (38, .putfield 24, 3), (41, .return_, 1)] := by decide +kernel
theorem dX0_init_33 : decode cX0_init 33 = .ok (.putfield 21, 3) := dz_at dqX0_init_p094 0 rfl
theorem dX0_init_36 : decode cX0_init 36 = .ok (.aload_n 0, 1) := dz_at dqX0_init_p094 1 rfl
theorem dX0_init_37 : decode cX0_init 37 = .ok (.aload_n 1, 1) := dz_at dqX0_init_p094 2 rfl
theorem dX0_init_38 : decode cX0_init 38 = .ok (.putfield 24, 3) := dz_at dqX0_init_p094 3 rfl
theorem dX0_init_41 : decode cX0_init 41 = .ok (.return_, 1) := dz_at dqX0_init_p094 4 rfl
set_option maxRecDepth 20000 in
theorem dqX0_exchangeAlike_p090 : dz_rn 0 (cX0_exchangeAlike.data.toList.drop 0) [(0, 4), (3, 0), (0, 1), (2, 0), (0, 23), (0, 2), (0, 11), (0, 10), (1, 1), (0, 4), (3, 0), (0, 1), (2, 0), (0, 23)] = some [(0, .aload_n 0, 1), (1, .getfield 9, 3), (4, .iload_n 1, 1), (5, .bipush 10, 2), (7, .imul, 1), (8, .iload_n 2, 1), (9, .iadd, 1), (10, .iaload, 1), (11, .istore 4, 2), (13, .aload_n 0, 1), (14, .getfield 9, 3), (17, .iload_n 1, 1), (18, .bipush 10, 2), (20, .imul, 1)] := by decide +kernel
theorem dX0_exchangeAlike_0 : decode cX0_exchangeAlike 0 = .ok (.aload_n 0, 1) := dz_at dqX0_exchangeAlike_p090 0 rfl
theorem dX0_exchangeAlike_1 : decode cX0_exchangeAlike 1 = .ok (.getfield 9, 3) := dz_at dqX0_exchangeAlike_p090 1 rfl
theorem dX0_exchangeAlike_4 : decode cX0_exchangeAlike 4 = .ok (.iload_n 1, 1) := dz_at dqX0_exchangeAlike_p090 2 rfl
theorem dX0_exchangeAlike_5 : decode cX0_exchangeAlike 5 = .ok (.bipush 10, 2) := dz_at dqX0_exchangeAlike_p090 3 rfl
theorem dX0_exchangeAlike_7 : decode cX0_exchangeAlike 7 = .ok (.imul, 1) := dz_at dqX0_exchangeAlike_p090 4 rfl
theorem dX0_exchangeAlike_8 : decode cX0_exchangeAlike 8 = .ok (.iload_n 2, 1) := dz_at dqX0_exchangeAlike_p090 5 rfl
theorem dX0_exchangeAlike_9 : decode cX0_exchangeAlike 9 = .ok (.iadd, 1) := dz_at dqX0_exchangeAlike_p090 6 rfl
theorem dX0_exchangeAlike_10 : decode cX0_exchangeAlike 10 = .ok (.iaload, 1) := dz_at dqX0_exchangeAlike_p090 7 rfl
theorem dX0_exchangeAlike_11 : decode cX0_exchangeAlike 11 = .ok (.istore 4, 2) := dz_at dqX0_exchangeAlike_p090 8 rfl
theorem dX0_exchangeAlike_13 : decode cX0_exchangeAlike 13 = .ok (.aload_n 0, 1) := dz_at dqX0_exchangeAlike_p090 9 rfl
theorem dX0_exchangeAlike_14 : decode cX0_exchangeAlike 14 = .ok (.getfield 9, 3) := dz_at dqX0_exchangeAlike_p090 10 rfl
theorem dX0_exchangeAlike_17 : decode cX0_exchangeAlike 17 = .ok (.iload_n 1, 1) := dz_at dqX0_exchangeAlike_p090 11 rfl
theorem dX0_exchangeAlike_18 : decode cX0_exchangeAlike 18 = .ok (.bipush 10, 2) := dz_at dqX0_exchangeAlike_p090 12 rfl
theorem dX0_exchangeAlike_20 : decode cX0_exchangeAlike 20 = .ok (.imul, 1) := dz_at dqX0_exchangeAlike_p090 13 rfl
set_option maxRecDepth 20000 in
theorem dqX0_exchangeAlike_p091 : dz_rn 21 (cX0_exchangeAlike.data.toList.drop 21) [(0, 2), (0, 11), (0, 3), (0, 22), (0, 4), (3, 0), (0, 2), (2, 0), (0, 23), (0, 1), (0, 11), (0, 3), (0, 22), (1, 0)] = some [(21, .iload_n 2, 1), (22, .iadd, 1), (23, .iload_n 3, 1), (24, .iastore, 1), (25, .aload_n 0, 1), (26, .getfield 9, 3), (29, .iload_n 2, 1), (30, .bipush 10, 2), (32, .imul, 1), (33, .iload_n 1, 1), (34, .iadd, 1), (35, .iload_n 3, 1), (36, .iastore, 1), (37, .iload 4, 2)] := by decide +kernel
theorem dX0_exchangeAlike_21 : decode cX0_exchangeAlike 21 = .ok (.iload_n 2, 1) := dz_at dqX0_exchangeAlike_p091 0 rfl
theorem dX0_exchangeAlike_22 : decode cX0_exchangeAlike 22 = .ok (.iadd, 1) := dz_at dqX0_exchangeAlike_p091 1 rfl
theorem dX0_exchangeAlike_23 : decode cX0_exchangeAlike 23 = .ok (.iload_n 3, 1) := dz_at dqX0_exchangeAlike_p091 2 rfl
theorem dX0_exchangeAlike_24 : decode cX0_exchangeAlike 24 = .ok (.iastore, 1) := dz_at dqX0_exchangeAlike_p091 3 rfl
theorem dX0_exchangeAlike_25 : decode cX0_exchangeAlike 25 = .ok (.aload_n 0, 1) := dz_at dqX0_exchangeAlike_p091 4 rfl
theorem dX0_exchangeAlike_26 : decode cX0_exchangeAlike 26 = .ok (.getfield 9, 3) := dz_at dqX0_exchangeAlike_p091 5 rfl
theorem dX0_exchangeAlike_29 : decode cX0_exchangeAlike 29 = .ok (.iload_n 2, 1) := dz_at dqX0_exchangeAlike_p091 6 rfl
theorem dX0_exchangeAlike_30 : decode cX0_exchangeAlike 30 = .ok (.bipush 10, 2) := dz_at dqX0_exchangeAlike_p091 7 rfl
theorem dX0_exchangeAlike_32 : decode cX0_exchangeAlike 32 = .ok (.imul, 1) := dz_at dqX0_exchangeAlike_p091 8 rfl
theorem dX0_exchangeAlike_33 : decode cX0_exchangeAlike 33 = .ok (.iload_n 1, 1) := dz_at dqX0_exchangeAlike_p091 9 rfl
theorem dX0_exchangeAlike_34 : decode cX0_exchangeAlike 34 = .ok (.iadd, 1) := dz_at dqX0_exchangeAlike_p091 10 rfl
theorem dX0_exchangeAlike_35 : decode cX0_exchangeAlike 35 = .ok (.iload_n 3, 1) := dz_at dqX0_exchangeAlike_p091 11 rfl
theorem dX0_exchangeAlike_36 : decode cX0_exchangeAlike 36 = .ok (.iastore, 1) := dz_at dqX0_exchangeAlike_p091 12 rfl
theorem dX0_exchangeAlike_37 : decode cX0_exchangeAlike 37 = .ok (.iload 4, 2) := dz_at dqX0_exchangeAlike_p091 13 rfl
theorem dX0_exchangeAlike_39 : decode cX0_exchangeAlike 39 = .ok (.ireturn, 1) := by decide +kernel
set_option maxRecDepth 20000 in
theorem ggX0_findBest_X0_seek : GoodIn wsX0_findBest wsX0_seek := goodIn_r _ [11, 6, 12, 13, 2, 3, 4, 5, 1, 14, 15, 16, 10, 17, 18, 19, 20, 21, 22, 23, 24, 25, 26, 27, 28, 29, 30, 31, 32, 7, 8, 9, 33, 34, 35, 36, 37, 38, 39] rfl (by decide +kernel)
set_option maxRecDepth 20000 in
theorem gX0_findBest_X0_seek : GoodIn wsX0_findBest (wsV RX0 38 RX0 yX0_seek wsX0_seek) := goodIn_app (goodIn_of _ (by decide +kernel)) ggX0_findBest_X0_seek
set_option maxRecDepth 20000 in
theorem dqX0_findBest_p090 : dz_rn 0 (cX0_findBest.data.toList.drop 0) [(0, 5), (0, 8), (0, 4), (3, 0), (0, 8), (2, 0), (3, 2), (0, 4), (4, 13), (3, 3), (0, 4), (0, 8), (0, 2), (0, 8)] = some [(0, .aload_n 1, 1), (1, .iconst 0, 1), (2, .aload_n 0, 1), (3, .getfield 15, 3), (6, .iconst 0, 1), (7, .bipush 8, 2), (9, .invokestatic 28, 3), (12, .aload_n 0, 1), (13, .sipush 2592, 3), (16, .putfield 34, 3), (19, .aload_n 0, 1), (20, .iconst 0, 1), (21, .iload_n 2, 1), (22, .iconst 0, 1)] := by decide +kernel
theorem dX0_findBest_0 : decode cX0_findBest 0 = .ok (.aload_n 1, 1) := dz_at dqX0_findBest_p090 0 rfl
theorem dX0_findBest_1 : decode cX0_findBest 1 = .ok (.iconst 0, 1) := dz_at dqX0_findBest_p090 1 rfl
theorem dX0_findBest_2 : decode cX0_findBest 2 = .ok (.aload_n 0, 1) := dz_at dqX0_findBest_p090 2 rfl
theorem dX0_findBest_3 : decode cX0_findBest 3 = .ok (.getfield 15, 3) := dz_at dqX0_findBest_p090 3 rfl
theorem dX0_findBest_6 : decode cX0_findBest 6 = .ok (.iconst 0, 1) := dz_at dqX0_findBest_p090 4 rfl
theorem dX0_findBest_7 : decode cX0_findBest 7 = .ok (.bipush 8, 2) := dz_at dqX0_findBest_p090 5 rfl
theorem dX0_findBest_9 : decode cX0_findBest 9 = .ok (.invokestatic 28, 3) := dz_at dqX0_findBest_p090 6 rfl
theorem dX0_findBest_12 : decode cX0_findBest 12 = .ok (.aload_n 0, 1) := dz_at dqX0_findBest_p090 7 rfl
theorem dX0_findBest_13 : decode cX0_findBest 13 = .ok (.sipush 2592, 3) := dz_at dqX0_findBest_p090 8 rfl
theorem dX0_findBest_16 : decode cX0_findBest 16 = .ok (.putfield 34, 3) := dz_at dqX0_findBest_p090 9 rfl
theorem dX0_findBest_19 : decode cX0_findBest 19 = .ok (.aload_n 0, 1) := dz_at dqX0_findBest_p090 10 rfl
theorem dX0_findBest_20 : decode cX0_findBest 20 = .ok (.iconst 0, 1) := dz_at dqX0_findBest_p090 11 rfl
theorem dX0_findBest_21 : decode cX0_findBest 21 = .ok (.iload_n 2, 1) := dz_at dqX0_findBest_p090 12 rfl
theorem dX0_findBest_22 : decode cX0_findBest 22 = .ok (.iconst 0, 1) := dz_at dqX0_findBest_p090 13 rfl
set_option maxRecDepth 20000 in
theorem dqX0_findBest_p091 : dz_rn 23 (cX0_findBest.data.toList.drop 23) [(0, 8), (3, 1), (0, 25)] = some [(23, .iconst 0, 1), (24, .invokevirtual 38, 3), (27, .return_, 1)] := by decide +kernel
theorem dX0_findBest_23 : decode cX0_findBest 23 = .ok (.iconst 0, 1) := dz_at dqX0_findBest_p091 0 rfl
theorem dX0_findBest_24 : decode cX0_findBest 24 = .ok (.invokevirtual 38, 3) := dz_at dqX0_findBest_p091 1 rfl
theorem dX0_findBest_27 : decode cX0_findBest 27 = .ok (.return_, 1) := dz_at dqX0_findBest_p091 2 rfl
set_option maxRecDepth 20000 in
theorem ggX0_seek_X0_harmOf : GoodIn wsX0_seek wsX0_harmOf := goodIn_r _ [13, 14, 2, 15, 16, 17, 18, 19, 20, 21, 22, 23, 24, 25, 26, 27, 28, 32, 33, 34, 35, 36, 37, 38] rfl (by decide +kernel)
set_option maxRecDepth 20000 in
theorem gX0_seek_X0_harmOf : GoodIn wsX0_seek (wsV RX0 42 RX0 yX0_harmOf wsX0_harmOf) := goodIn_app (goodIn_of _ (by decide +kernel)) ggX0_seek_X0_harmOf
set_option maxRecDepth 20000 in
theorem ggX0_seek_X0_seek : GoodIn wsX0_seek wsX0_seek := goodIn_r _ [0, 1, 2, 3, 4, 5, 6, 7, 8, 9, 10, 11, 12, 13, 14, 15, 16, 17, 18, 19, 20, 21, 22, 23, 24, 25, 26, 27, 28, 29, 30, 31, 32, 33, 34, 35, 36, 37, 38] rfl (by decide +kernel)
set_option maxRecDepth 20000 in
theorem gX0_seek_X0_seek : GoodIn wsX0_seek (wsV RX0 38 RX0 yX0_seek wsX0_seek) := goodIn_app (goodIn_of _ (by decide +kernel)) ggX0_seek_X0_seek
set_option maxRecDepth 20000 in
theorem dqX0_seek_p090 : dz_rn 0 (cX0_seek.data.toList.drop 0) [(1, 0), (0, 4), (3, 0), (4, 3), (0, 25), (0, 1), (0, 2), (4, 4), (0, 1), (2, 0), (4, 3), (0, 4), (1, 0), (3, 3)] = some [(0, .iload 4, 2), (2, .aload_n 0, 1), (3, .getfield 34, 3), (6, .if_icmp .lt 4, 3), (9, .return_, 1), (10, .iload_n 1, 1), (11, .iload_n 2, 1), (12, .if_icmp .ge 9, 3), (15, .iload_n 1, 1), (16, .bipush 6, 2), (18, .if_icmp .lt 25, 3), (21, .aload_n 0, 1), (22, .iload 4, 2), (24, .putfield 34, 3)] := by decide +kernel
theorem dX0_seek_0 : decode cX0_seek 0 = .ok (.iload 4, 2) := dz_at dqX0_seek_p090 0 rfl
theorem dX0_seek_2 : decode cX0_seek 2 = .ok (.aload_n 0, 1) := dz_at dqX0_seek_p090 1 rfl
theorem dX0_seek_3 : decode cX0_seek 3 = .ok (.getfield 34, 3) := dz_at dqX0_seek_p090 2 rfl
theorem dX0_seek_6 : decode cX0_seek 6 = .ok (.if_icmp .lt 4, 3) := dz_at dqX0_seek_p090 3 rfl
theorem dX0_seek_9 : decode cX0_seek 9 = .ok (.return_, 1) := dz_at dqX0_seek_p090 4 rfl
theorem dX0_seek_10 : decode cX0_seek 10 = .ok (.iload_n 1, 1) := dz_at dqX0_seek_p090 5 rfl
theorem dX0_seek_11 : decode cX0_seek 11 = .ok (.iload_n 2, 1) := dz_at dqX0_seek_p090 6 rfl
theorem dX0_seek_12 : decode cX0_seek 12 = .ok (.if_icmp .ge 9, 3) := dz_at dqX0_seek_p090 7 rfl
theorem dX0_seek_15 : decode cX0_seek 15 = .ok (.iload_n 1, 1) := dz_at dqX0_seek_p090 8 rfl
theorem dX0_seek_16 : decode cX0_seek 16 = .ok (.bipush 6, 2) := dz_at dqX0_seek_p090 9 rfl
theorem dX0_seek_18 : decode cX0_seek 18 = .ok (.if_icmp .lt 25, 3) := dz_at dqX0_seek_p090 10 rfl
theorem dX0_seek_21 : decode cX0_seek 21 = .ok (.aload_n 0, 1) := dz_at dqX0_seek_p090 11 rfl
theorem dX0_seek_22 : decode cX0_seek 22 = .ok (.iload 4, 2) := dz_at dqX0_seek_p090 12 rfl
theorem dX0_seek_24 : decode cX0_seek 24 = .ok (.putfield 34, 3) := dz_at dqX0_seek_p090 13 rfl
set_option maxRecDepth 20000 in
theorem dqX0_seek_p091 : dz_rn 27 (cX0_seek.data.toList.drop 27) [(0, 4), (3, 0), (0, 8), (0, 4), (3, 0), (0, 8), (2, 0), (3, 2), (0, 25), (0, 8), (1, 1), (1, 0), (0, 2), (4, 4)] = some [(27, .aload_n 0, 1), (28, .getfield 18, 3), (31, .iconst 0, 1), (32, .aload_n 0, 1), (33, .getfield 21, 3), (36, .iconst 0, 1), (37, .bipush 6, 2), (39, .invokestatic 28, 3), (42, .return_, 1), (43, .iconst 0, 1), (44, .istore 5, 2), (46, .iload 5, 2), (48, .iload_n 2, 1), (49, .if_icmp .ge 53, 3)] := by decide +kernel
theorem dX0_seek_27 : decode cX0_seek 27 = .ok (.aload_n 0, 1) := dz_at dqX0_seek_p091 0 rfl
