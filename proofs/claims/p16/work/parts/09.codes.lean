set_option maxRecDepth 20000 in
theorem dqX0_init_p090 : dz_rn 0 (cX0_init.data.toList.drop 0) [(0, 4), (3, 5), (0, 4), (2, 0)] = some [(0, .aload_n 0, 1), (1, .invokespecial 3, 3), (4, .aload_n 0, 1), (5, .bipush 100, 2)] := by decide +kernel
theorem dX0_init_0 : decode cX0_init 0 = .ok (.aload_n 0, 1) := dz_at dqX0_init_p090 0 rfl
theorem dX0_init_1 : decode cX0_init 1 = .ok (.invokespecial 3, 3) := dz_at dqX0_init_p090 1 rfl
theorem dX0_init_4 : decode cX0_init 4 = .ok (.aload_n 0, 1) := dz_at dqX0_init_p090 2 rfl
theorem dX0_init_5 : decode cX0_init 5 = .ok (.bipush 100, 2) := dz_at dqX0_init_p090 3 rfl
theorem dX0_init_7 : decode cX0_init 7 = .ok (.newarray .int, 2) := by decide +kernel
set_option maxRecDepth 20000 in
theorem dqX0_init_p091 : dz_rn 9 (cX0_init.data.toList.drop 9) [(3, 3), (0, 4), (2, 0)] = some [(9, .putfield 9, 3), (12, .aload_n 0, 1), (13, .bipush 8, 2)] := by decide +kernel
theorem dX0_init_9 : decode cX0_init 9 = .ok (.putfield 9, 3) := dz_at dqX0_init_p091 0 rfl
theorem dX0_init_12 : decode cX0_init 12 = .ok (.aload_n 0, 1) := dz_at dqX0_init_p091 1 rfl
theorem dX0_init_13 : decode cX0_init 13 = .ok (.bipush 8, 2) := dz_at dqX0_init_p091 2 rfl
theorem dX0_init_15 : decode cX0_init 15 = .ok (.newarray .int, 2) := by decide +kernel
set_option maxRecDepth 20000 in
theorem dqX0_init_p092 : dz_rn 17 (cX0_init.data.toList.drop 17) [(3, 3), (0, 4), (2, 0)] = some [(17, .putfield 15, 3), (20, .aload_n 0, 1), (21, .bipush 6, 2)] := by decide +kernel
theorem dX0_init_17 : decode cX0_init 17 = .ok (.putfield 15, 3) := dz_at dqX0_init_p092 0 rfl
theorem dX0_init_20 : decode cX0_init 20 = .ok (.aload_n 0, 1) := dz_at dqX0_init_p092 1 rfl
theorem dX0_init_21 : decode cX0_init 21 = .ok (.bipush 6, 2) := dz_at dqX0_init_p092 2 rfl
theorem dX0_init_23 : decode cX0_init 23 = .ok (.newarray .int, 2) := by decide +kernel
set_option maxRecDepth 20000 in
theorem dqX0_init_p093 : dz_rn 25 (cX0_init.data.toList.drop 25) [(3, 3), (0, 4), (2, 0)] = some [(25, .putfield 18, 3), (28, .aload_n 0, 1), (29, .bipush 6, 2)] := by decide +kernel
theorem dX0_init_25 : decode cX0_init 25 = .ok (.putfield 18, 3) := dz_at dqX0_init_p093 0 rfl
theorem dX0_init_28 : decode cX0_init 28 = .ok (.aload_n 0, 1) := dz_at dqX0_init_p093 1 rfl
theorem dX0_init_29 : decode cX0_init 29 = .ok (.bipush 6, 2) := dz_at dqX0_init_p093 2 rfl
theorem dX0_init_31 : decode cX0_init 31 = .ok (.newarray .int, 2) := by decide +kernel
set_option maxRecDepth 20000 in
theorem dqX0_init_p094 : dz_rn 33 (cX0_init.data.toList.drop 33) [(3, 3), (0, 4), (0, 5), (3, 3), (0, 25)] = some [(33, .putfield 21, 3), (36, .aload_n 0, 1), (37, .aload_n 1, 1), (38, .putfield 24, 3), (41, .return_, 1)] := by decide +kernel
theorem dX0_init_33 : decode cX0_init 33 = .ok (.putfield 21, 3) := dz_at dqX0_init_p094 0 rfl
theorem dX0_init_36 : decode cX0_init 36 = .ok (.aload_n 0, 1) := dz_at dqX0_init_p094 1 rfl
theorem dX0_init_37 : decode cX0_init 37 = .ok (.aload_n 1, 1) := dz_at dqX0_init_p094 2 rfl
theorem dX0_init_38 : decode cX0_init 38 = .ok (.putfield 24, 3) := dz_at dqX0_init_p094 3 rfl
theorem dX0_init_41 : decode cX0_init 41 = .ok (.return_, 1) := dz_at dqX0_init_p094 4 rfl
set_option maxRecDepth 20000 in
theorem dqX0_exchangeAlike_p090 : dz_rn 0 (cX0_exchangeAlike.data.toList.drop 0) [(0, 4), (3, 0), (0, 1), (2, 0), (0, 23), (0, 2), (0, 11), (0, 10), (1, 1), (0, 4), (3, 0), (0, 1), (2, 0), (0, 23)] = some [(0, .aload_n 0, 1), (1, .getfield 9, 3), (4, .iload_n 1, 1), (5, .bipush 10, 2), (7, .imul, 1), (8, .iload_n 2, 1), (9, .iadd, 1), (10, .iaload, 1), (11, .istore 4, 2), (13, .aload_n 0, 1), (14, .getfield 9, 3), (17, .iload_n 1, 1), (18, .bipush 10, 2), (20, .imul, 1)] := by decide +kernel
theorem dX0_exchangeAlike_0 : decode cX0_exchangeAlike 0 = .ok (.aload_n 0, 1) := dz_at dqX0_exchangeAlike_p090 0 rfl
theorem dX0_exchangeAlike_1 : decode cX0_exchangeAlike 1 = .ok (.getfield 9, 3) := dz_at dqX0_exchangeAlike_p090 1 rfl
theorem dX0_exchangeAlike_4 : decode cX0_exchangeAlike 4 = .ok (.iload_n 1, 1) := dz_at dqX0_exchangeAlike_p090 2 rfl
theorem dX0_exchangeAlike_5 : decode cX0_exchangeAlike 5 = .ok (.bipush 10, 2) := dz_at dqX0_exchangeAlike_p090 3 rfl
theorem dX0_exchangeAlike_7 : decode cX0_exchangeAlike 7 = .ok (.imul, 1) := dz_at dqX0_exchangeAlike_p090 4 rfl
theorem dX0_exchangeAlike_8 : decode cX0_exchangeAlike 8 = .ok (.iload_n 2, 1) := dz_at dqX0_exchangeAlike_p090 5 rfl
theorem dX0_exchangeAlike_9 : decode cX0_exchangeAlike 9 = .ok (.iadd, 1) := dz_at dqX0_exchangeAlike_p090 6 rfl
theorem dX0_exchangeAlike_10 : decode cX0_exchangeAlike 10 = .ok (.iaload, 1) := dz_at dqX0_exchangeAlike_p090 7 rfl
theorem dX0_exchangeAlike_11 : decode cX0_exchangeAlike 11 = .ok (.istore 4, 2) := dz_at dqX0_exchangeAlike_p090 8 rfl
theorem dX0_exchangeAlike_13 : decode cX0_exchangeAlike 13 = .ok (.aload_n 0, 1) := dz_at dqX0_exchangeAlike_p090 9 rfl
theorem dX0_exchangeAlike_14 : decode cX0_exchangeAlike 14 = .ok (.getfield 9, 3) := dz_at dqX0_exchangeAlike_p090 10 rfl
theorem dX0_exchangeAlike_17 : decode cX0_exchangeAlike 17 = .ok (.iload_n 1, 1) := dz_at dqX0_exchangeAlike_p090 11 rfl
theorem dX0_exchangeAlike_18 : decode cX0_exchangeAlike 18 = .ok (.bipush 10, 2) := dz_at dqX0_exchangeAlike_p090 12 rfl
theorem dX0_exchangeAlike_20 : decode cX0_exchangeAlike 20 = .ok (.imul, 1) := dz_at dqX0_exchangeAlike_p090 13 rfl
set_option maxRecDepth 20000 in
theorem dqX0_exchangeAlike_p091 : dz_rn 21 (cX0_exchangeAlike.data.toList.drop 21) [(0, 2), (0, 11), (0, 3), (0, 22), (0, 4), (3, 0), (0, 2), (2, 0), (0, 23), (0, 1), (0, 11), (0, 3), (0, 22), (1, 0)] = some [(21, .iload_n 2, 1), (22, .iadd, 1), (23, .iload_n 3, 1), (24, .iastore, 1), (25, .aload_n 0, 1), (26, .getfield 9, 3), (29, .iload_n 2, 1), (30, .bipush 10, 2), (32, .imul, 1), (33, .iload_n 1, 1), (34, .iadd, 1), (35, .iload_n 3, 1), (36, .iastore, 1), (37, .iload 4, 2)] := by decide +kernel
theorem dX0_exchangeAlike_21 : decode cX0_exchangeAlike 21 = .ok (.iload_n 2, 1) := dz_at dqX0_exchangeAlike_p091 0 rfl
theorem dX0_exchangeAlike_22 : decode cX0_exchangeAlike 22 = .ok (.iadd, 1) := dz_at dqX0_exchangeAlike_p091 1 rfl
theorem dX0_exchangeAlike_23 : decode cX0_exchangeAlike 23 = .ok (.iload_n 3, 1) := dz_at dqX0_exchangeAlike_p091 2 rfl
theorem dX0_exchangeAlike_24 : decode cX0_exchangeAlike 24 = .ok (.iastore, 1) := dz_at dqX0_exchangeAlike_p091 3 rfl
theorem dX0_exchangeAlike_25 : decode cX0_exchangeAlike 25 = .ok (.aload_n 0, 1) := dz_at dqX0_exchangeAlike_p091 4 rfl
theorem dX0_exchangeAlike_26 : decode cX0_exchangeAlike 26 = .ok (.getfield 9, 3) := dz_at dqX0_exchangeAlike_p091 5 rfl
theorem dX0_exchangeAlike_29 : decode cX0_exchangeAlike 29 = .ok (.iload_n 2, 1) := dz_at dqX0_exchangeAlike_p091 6 rfl
theorem dX0_exchangeAlike_30 : decode cX0_exchangeAlike 30 = .ok (.bipush 10, 2) := dz_at dqX0_exchangeAlike_p091 7 rfl
theorem dX0_exchangeAlike_32 : decode cX0_exchangeAlike 32 = .ok (.imul, 1) := dz_at dqX0_exchangeAlike_p091 8 rfl
theorem dX0_exchangeAlike_33 : decode cX0_exchangeAlike 33 = .ok (.iload_n 1, 1) := dz_at dqX0_exchangeAlike_p091 9 rfl
theorem dX0_exchangeAlike_34 : decode cX0_exchangeAlike 34 = .ok (.iadd, 1) := dz_at dqX0_exchangeAlike_p091 10 rfl
theorem dX0_exchangeAlike_35 : decode cX0_exchangeAlike 35 = .ok (.iload_n 3, 1) := dz_at dqX0_exchangeAlike_p091 11 rfl
theorem dX0_exchangeAlike_36 : decode cX0_exchangeAlike 36 = .ok (.iastore, 1) := dz_at dqX0_exchangeAlike_p091 12 rfl
theorem dX0_exchangeAlike_37 : decode cX0_exchangeAlike 37 = .ok (.iload 4, 2) := dz_at dqX0_exchangeAlike_p091 13 rfl
theorem dX0_exchangeAlike_39 : decode cX0_exchangeAlike 39 = .ok (.ireturn, 1) := by decide +kernel
set_option maxRecDepth 20000 in
theorem ggX0_findBest_X0_seek : GoodIn wsX0_findBest wsX0_seek := goodIn_r _ [11, 6, 12, 13, 2, 3, 4, 5, 1, 14, 15, 16, 10, 17, 18, 19, 20, 21, 22, 23, 24, 25, 26, 27, 28, 29, 30, 31, 32, 7, 8, 9, 33, 34, 35, 36, 37, 38, 39] rfl (by decide +kernel)
set_option maxRecDepth 20000 in
theorem gX0_findBest_X0_seek : GoodIn wsX0_findBest (wsV RX0 38 RX0 yX0_seek wsX0_seek) := goodIn_app (goodIn_of _ (by decide +kernel)) ggX0_findBest_X0_seek
set_option maxRecDepth 20000 in
theorem dqX0_findBest_p090 : dz_rn 0 (cX0_findBest.data.toList.drop 0) [(0, 5), (0, 8), (0, 4), (3, 0), (0, 8), (2, 0), (3, 2), (0, 4), (4, 13), (3, 3), (0, 4), (0, 8), (0, 2), (0, 8)] = some [(0, .aload_n 1, 1), (1, .iconst 0, 1), (2, .aload_n 0, 1), (3, .getfield 15, 3), (6, .iconst 0, 1), (7, .bipush 8, 2), (9, .invokestatic 28, 3), (12, .aload_n 0, 1), (13, .sipush 2592, 3), (16, .putfield 34, 3), (19, .aload_n 0, 1), (20, .iconst 0, 1), (21, .iload_n 2, 1), (22, .iconst 0, 1)] := by decide +kernel
theorem dX0_findBest_0 : decode cX0_findBest 0 = .ok (.aload_n 1, 1) := dz_at dqX0_findBest_p090 0 rfl
theorem dX0_findBest_1 : decode cX0_findBest 1 = .ok (.iconst 0, 1) := dz_at dqX0_findBest_p090 1 rfl
theorem dX0_findBest_2 : decode cX0_findBest 2 = .ok (.aload_n 0, 1) := dz_at dqX0_findBest_p090 2 rfl
theorem dX0_findBest_3 : decode cX0_findBest 3 = .ok (.getfield 15, 3) := dz_at dqX0_findBest_p090 3 rfl
theorem dX0_findBest_6 : decode cX0_findBest 6 = .ok (.iconst 0, 1) := dz_at dqX0_findBest_p090 4 rfl
theorem dX0_findBest_7 : decode cX0_findBest 7 = .ok (.bipush 8, 2) := dz_at dqX0_findBest_p090 5 rfl
theorem dX0_findBest_9 : decode cX0_findBest 9 = .ok (.invokestatic 28, 3) := dz_at dqX0_findBest_p090 6 rfl
theorem dX0_findBest_12 : decode cX0_findBest 12 = .ok (.aload_n 0, 1) := dz_at dqX0_findBest_p090 7 rfl
theorem dX0_findBest_13 : decode cX0_findBest 13 = .ok (.sipush 2592, 3) := dz_at dqX0_findBest_p090 8 rfl
theorem dX0_findBest_16 : decode cX0_findBest 16 = .ok (.putfield 34, 3) := dz_at dqX0_findBest_p090 9 rfl
theorem dX0_findBest_19 : decode cX0_findBest 19 = .ok (.aload_n 0, 1) := dz_at dqX0_findBest_p090 10 rfl
theorem dX0_findBest_20 : decode cX0_findBest 20 = .ok (.iconst 0, 1) := dz_at dqX0_findBest_p090 11 rfl
theorem dX0_findBest_21 : decode cX0_findBest 21 = .ok (.iload_n 2, 1) := dz_at dqX0_findBest_p090 12 rfl
theorem dX0_findBest_22 : decode cX0_findBest 22 = .ok (.iconst 0, 1) := dz_at dqX0_findBest_p090 13 rfl
set_option maxRecDepth 20000 in
theorem dqX0_findBest_p091 : dz_rn 23 (cX0_findBest.data.toList.drop 23) [(0, 8), (3, 1), (0, 25)] = some [(23, .iconst 0, 1), (24, .invokevirtual 38, 3), (27, .return_, 1)] := by decide +kernel
theorem dX0_findBest_23 : decode cX0_findBest 23 = .ok (.iconst 0, 1) := dz_at dqX0_findBest_p091 0 rfl
theorem dX0_findBest_24 : decode cX0_findBest 24 = .ok (.invokevirtual 38, 3) := dz_at dqX0_findBest_p091 1 rfl
theorem dX0_findBest_27 : decode cX0_findBest 27 = .ok (.return_, 1) := dz_at dqX0_findBest_p091 2 rfl
set_option maxRecDepth 20000 in
theorem ggX0_seek_X0_harmOf : GoodIn wsX0_seek wsX0_harmOf := goodIn_r _ [13, 14, 2, 15, 16, 17, 18, 19, 20, 21, 22, 23, 24, 25, 26, 27, 28, 32, 33, 34, 35, 36, 37, 38] rfl (by decide +kernel)
set_option maxRecDepth 20000 in
theorem gX0_seek_X0_harmOf : GoodIn wsX0_seek (wsV RX0 42 RX0 yX0_harmOf wsX0_harmOf) := goodIn_app (goodIn_of _ (by decide +kernel)) ggX0_seek_X0_harmOf
set_option maxRecDepth 20000 in
theorem ggX0_seek_X0_seek : GoodIn wsX0_seek wsX0_seek := goodIn_r _ [0, 1, 2, 3, 4, 5, 6, 7, 8, 9, 10, 11, 12, 13, 14, 15, 16, 17, 18, 19, 20, 21, 22, 23, 24, 25, 26, 27, 28, 29, 30, 31, 32, 33, 34, 35, 36, 37, 38] rfl (by decide +kernel)
set_option maxRecDepth 20000 in
theorem gX0_seek_X0_seek : GoodIn wsX0_seek (wsV RX0 38 RX0 yX0_seek wsX0_seek) := goodIn_app (goodIn_of _ (by decide +kernel)) ggX0_seek_X0_seek
set_option maxRecDepth 20000 in
theorem dqX0_seek_p090 : dz_rn 0 (cX0_seek.data.toList.drop 0) [(1, 0), (0, 4), (3, 0), (4, 3), (0, 25), (0, 1), (0, 2), (4, 4), (0, 1), (2, 0), (4, 3), (0, 4), (1, 0), (3, 3)] = some [(0, .iload 4, 2), (2, .aload_n 0, 1), (3, .getfield 34, 3), (6, .if_icmp .lt 4, 3), (9, .return_, 1), (10, .iload_n 1, 1), (11, .iload_n 2, 1), (12, .if_icmp .ge 9, 3), (15, .iload_n 1, 1), (16, .bipush 6, 2), (18, .if_icmp .lt 25, 3), (21, .aload_n 0, 1), (22, .iload 4, 2), (24, .putfield 34, 3)] := by decide +kernel
theorem dX0_seek_0 : decode cX0_seek 0 = .ok (.iload 4, 2) := dz_at dqX0_seek_p090 0 rfl
theorem dX0_seek_2 : decode cX0_seek 2 = .ok (.aload_n 0, 1) := dz_at dqX0_seek_p090 1 rfl
theorem dX0_seek_3 : decode cX0_seek 3 = .ok (.getfield 34, 3) := dz_at dqX0_seek_p090 2 rfl
theorem dX0_seek_6 : decode cX0_seek 6 = .ok (.if_icmp .lt 4, 3) := dz_at dqX0_seek_p090 3 rfl
theorem dX0_seek_9 : decode cX0_seek 9 = .ok (.return_, 1) := dz_at dqX0_seek_p090 4 rfl
theorem dX0_seek_10 : decode cX0_seek 10 = .ok (.iload_n 1, 1) := dz_at dqX0_seek_p090 5 rfl
theorem dX0_seek_11 : decode cX0_seek 11 = .ok (.iload_n 2, 1) := dz_at dqX0_seek_p090 6 rfl
theorem dX0_seek_12 : decode cX0_seek 12 = .ok (.if_icmp .ge 9, 3) := dz_at dqX0_seek_p090 7 rfl
theorem dX0_seek_15 : decode cX0_seek 15 = .ok (.iload_n 1, 1) := dz_at dqX0_seek_p090 8 rfl
theorem dX0_seek_16 : decode cX0_seek 16 = .ok (.bipush 6, 2) := dz_at dqX0_seek_p090 9 rfl
theorem dX0_seek_18 : decode cX0_seek 18 = .ok (.if_icmp .lt 25, 3) := dz_at dqX0_seek_p090 10 rfl
theorem dX0_seek_21 : decode cX0_seek 21 = .ok (.aload_n 0, 1) := dz_at dqX0_seek_p090 11 rfl
theorem dX0_seek_22 : decode cX0_seek 22 = .ok (.iload 4, 2) := dz_at dqX0_seek_p090 12 rfl
theorem dX0_seek_24 : decode cX0_seek 24 = .ok (.putfield 34, 3) := dz_at dqX0_seek_p090 13 rfl
set_option maxRecDepth 20000 in
theorem dqX0_seek_p091 : dz_rn 27 (cX0_seek.data.toList.drop 27) [(0, 4), (3, 0), (0, 8), (0, 4), (3, 0), (0, 8), (2, 0), (3, 2), (0, 25), (0, 8), (1, 1), (1, 0), (0, 2), (4, 4)] = some [(27, .aload_n 0, 1), (28, .getfield 18, 3), (31, .iconst 0, 1), (32, .aload_n 0, 1), (33, .getfield 21, 3), (36, .iconst 0, 1), (37, .bipush 6, 2), (39, .invokestatic 28, 3), (42, .return_, 1), (43, .iconst 0, 1), (44, .istore 5, 2), (46, .iload 5, 2), (48, .iload_n 2, 1), (49, .if_icmp .ge 53, 3)] := by decide +kernel
theorem dX0_seek_27 : decode cX0_seek 27 = .ok (.aload_n 0, 1) := dz_at dqX0_seek_p091 0 rfl
theorem dX0_seek_28 : decode cX0_seek 28 = .ok (.getfield 18, 3) := dz_at dqX0_seek_p091 1 rfl
theorem dX0_seek_31 : decode cX0_seek 31 = .ok (.iconst 0, 1) := dz_at dqX0_seek_p091 2 rfl
theorem dX0_seek_32 : decode cX0_seek 32 = .ok (.aload_n 0, 1) := dz_at dqX0_seek_p091 3 rfl
theorem dX0_seek_33 : decode cX0_seek 33 = .ok (.getfield 21, 3) := dz_at dqX0_seek_p091 4 rfl
theorem dX0_seek_36 : decode cX0_seek 36 = .ok (.iconst 0, 1) := dz_at dqX0_seek_p091 5 rfl
theorem dX0_seek_37 : decode cX0_seek 37 = .ok (.bipush 6, 2) := dz_at dqX0_seek_p091 6 rfl
theorem dX0_seek_39 : decode cX0_seek 39 = .ok (.invokestatic 28, 3) := dz_at dqX0_seek_p091 7 rfl
theorem dX0_seek_42 : decode cX0_seek 42 = .ok (.return_, 1) := dz_at dqX0_seek_p091 8 rfl
theorem dX0_seek_43 : decode cX0_seek 43 = .ok (.iconst 0, 1) := dz_at dqX0_seek_p091 9 rfl
theorem dX0_seek_44 : decode cX0_seek 44 = .ok (.istore 5, 2) := dz_at dqX0_seek_p091 10 rfl
theorem dX0_seek_46 : decode cX0_seek 46 = .ok (.iload 5, 2) := dz_at dqX0_seek_p091 11 rfl
theorem dX0_seek_48 : decode cX0_seek 48 = .ok (.iload_n 2, 1) := dz_at dqX0_seek_p091 12 rfl
theorem dX0_seek_49 : decode cX0_seek 49 = .ok (.if_icmp .ge 53, 3) := dz_at dqX0_seek_p091 13 rfl
set_option maxRecDepth 20000 in
theorem dqX0_seek_p092 : dz_rn 52 (cX0_seek.data.toList.drop 52) [(0, 3), (1, 0), (0, 32), (0, 9), (0, 29), (4, 8), (0, 4), (3, 0), (0, 1), (0, 4), (3, 0), (1, 0), (0, 10), (0, 22)] = some [(52, .iload_n 3, 1), (53, .iload 5, 2), (55, .ishr, 1), (56, .iconst 1, 1), (57, .iand, 1), (58, .ifCond .ne 38, 3), (61, .aload_n 0, 1), (62, .getfield 18, 3), (65, .iload_n 1, 1), (66, .aload_n 0, 1), (67, .getfield 15, 3), (70, .iload 5, 2), (72, .iaload, 1), (73, .iastore, 1)] := by decide +kernel
theorem dX0_seek_52 : decode cX0_seek 52 = .ok (.iload_n 3, 1) := dz_at dqX0_seek_p092 0 rfl
theorem dX0_seek_53 : decode cX0_seek 53 = .ok (.iload 5, 2) := dz_at dqX0_seek_p092 1 rfl
theorem dX0_seek_55 : decode cX0_seek 55 = .ok (.ishr, 1) := dz_at dqX0_seek_p092 2 rfl
theorem dX0_seek_56 : decode cX0_seek 56 = .ok (.iconst 1, 1) := dz_at dqX0_seek_p092 3 rfl
theorem dX0_seek_57 : decode cX0_seek 57 = .ok (.iand, 1) := dz_at dqX0_seek_p092 4 rfl
theorem dX0_seek_58 : decode cX0_seek 58 = .ok (.ifCond .ne 38, 3) := dz_at dqX0_seek_p092 5 rfl
theorem dX0_seek_61 : decode cX0_seek 61 = .ok (.aload_n 0, 1) := dz_at dqX0_seek_p092 6 rfl
theorem dX0_seek_62 : decode cX0_seek 62 = .ok (.getfield 18, 3) := dz_at dqX0_seek_p092 7 rfl
theorem dX0_seek_65 : decode cX0_seek 65 = .ok (.iload_n 1, 1) := dz_at dqX0_seek_p092 8 rfl
theorem dX0_seek_66 : decode cX0_seek 66 = .ok (.aload_n 0, 1) := dz_at dqX0_seek_p092 9 rfl
theorem dX0_seek_67 : decode cX0_seek 67 = .ok (.getfield 15, 3) := dz_at dqX0_seek_p092 10 rfl
theorem dX0_seek_70 : decode cX0_seek 70 = .ok (.iload 5, 2) := dz_at dqX0_seek_p092 11 rfl
theorem dX0_seek_72 : decode cX0_seek 72 = .ok (.iaload, 1) := dz_at dqX0_seek_p092 12 rfl
theorem dX0_seek_73 : decode cX0_seek 73 = .ok (.iastore, 1) := dz_at dqX0_seek_p092 13 rfl
set_option maxRecDepth 20000 in
theorem dqX0_seek_p093 : dz_rn 74 (cX0_seek.data.toList.drop 74) [(0, 4), (0, 1), (0, 9), (0, 11), (0, 2), (0, 3), (0, 9), (1, 0), (0, 31), (0, 39), (1, 0), (0, 4), (0, 1), (3, 1)] = some [(74, .aload_n 0, 1), (75, .iload_n 1, 1), (76, .iconst 1, 1), (77, .iadd, 1), (78, .iload_n 2, 1), (79, .iload_n 3, 1), (80, .iconst 1, 1), (81, .iload 5, 2), (83, .ishl, 1), (84, .ior, 1), (85, .iload 4, 2), (87, .aload_n 0, 1), (88, .iload_n 1, 1), (89, .invokevirtual 42, 3)] := by decide +kernel
theorem dX0_seek_74 : decode cX0_seek 74 = .ok (.aload_n 0, 1) := dz_at dqX0_seek_p093 0 rfl
theorem dX0_seek_75 : decode cX0_seek 75 = .ok (.iload_n 1, 1) := dz_at dqX0_seek_p093 1 rfl
theorem dX0_seek_76 : decode cX0_seek 76 = .ok (.iconst 1, 1) := dz_at dqX0_seek_p093 2 rfl
theorem dX0_seek_77 : decode cX0_seek 77 = .ok (.iadd, 1) := dz_at dqX0_seek_p093 3 rfl
theorem dX0_seek_78 : decode cX0_seek 78 = .ok (.iload_n 2, 1) := dz_at dqX0_seek_p093 4 rfl
theorem dX0_seek_79 : decode cX0_seek 79 = .ok (.iload_n 3, 1) := dz_at dqX0_seek_p093 5 rfl
theorem dX0_seek_80 : decode cX0_seek 80 = .ok (.iconst 1, 1) := dz_at dqX0_seek_p093 6 rfl
theorem dX0_seek_81 : decode cX0_seek 81 = .ok (.iload 5, 2) := dz_at dqX0_seek_p093 7 rfl
theorem dX0_seek_83 : decode cX0_seek 83 = .ok (.ishl, 1) := dz_at dqX0_seek_p093 8 rfl
theorem dX0_seek_84 : decode cX0_seek 84 = .ok (.ior, 1) := dz_at dqX0_seek_p093 9 rfl
theorem dX0_seek_85 : decode cX0_seek 85 = .ok (.iload 4, 2) := dz_at dqX0_seek_p093 10 rfl
theorem dX0_seek_87 : decode cX0_seek 87 = .ok (.aload_n 0, 1) := dz_at dqX0_seek_p093 11 rfl
theorem dX0_seek_88 : decode cX0_seek 88 = .ok (.iload_n 1, 1) := dz_at dqX0_seek_p093 12 rfl
theorem dX0_seek_89 : decode cX0_seek 89 = .ok (.invokevirtual 42, 3) := dz_at dqX0_seek_p093 13 rfl
set_option maxRecDepth 20000 in
theorem dqX0_seek_p094 : dz_rn 92 (cX0_seek.data.toList.drop 92) [(0, 11), (3, 1), (5, 0), (4, 0), (0, 25)] = some [(92, .iadd, 1), (93, .invokevirtual 38, 3), (96, .iinc 5 1, 3), (99, .goto (-53), 3), (102, .return_, 1)] := by decide +kernel
theorem dX0_seek_92 : decode cX0_seek 92 = .ok (.iadd, 1) := dz_at dqX0_seek_p094 0 rfl
theorem dX0_seek_93 : decode cX0_seek 93 = .ok (.invokevirtual 38, 3) := dz_at dqX0_seek_p094 1 rfl
theorem dX0_seek_96 : decode cX0_seek 96 = .ok (.iinc 5 1, 3) := dz_at dqX0_seek_p094 2 rfl
theorem dX0_seek_99 : decode cX0_seek 99 = .ok (.goto (-53), 3) := dz_at dqX0_seek_p094 3 rfl
theorem dX0_seek_102 : decode cX0_seek 102 = .ok (.return_, 1) := dz_at dqX0_seek_p094 4 rfl
set_option maxRecDepth 20000 in
theorem ggX0_harmOf_X2_shared : GoodIn wsX0_harmOf wsX2_shared := goodIn_r _ [8, 9, 10, 11, 12, 13, 14, 15, 16, 23] rfl (by decide +kernel)
set_option maxRecDepth 20000 in
theorem gX0_harmOf_X2_shared : GoodIn wsX0_harmOf (wsV RX0 46 RX2 yX2_shared wsX2_shared) := goodIn_app (goodIn_of _ (by decide +kernel)) ggX0_harmOf_X2_shared
set_option maxRecDepth 20000 in
theorem dqX0_harmOf_p090 : dz_rn 0 (cX0_harmOf.data.toList.drop 0) [(0, 8), (0, 20), (0, 8), (0, 21), (0, 3), (0, 1), (4, 4), (0, 2), (0, 4), (3, 0), (0, 4), (3, 0), (0, 3), (0, 10)] = some [(0, .iconst 0, 1), (1, .istore_n 2, 1), (2, .iconst 0, 1), (3, .istore_n 3, 1), (4, .iload_n 3, 1), (5, .iload_n 1, 1), (6, .if_icmp .ge 43, 3), (9, .iload_n 2, 1), (10, .aload_n 0, 1), (11, .getfield 24, 3), (14, .aload_n 0, 1), (15, .getfield 18, 3), (18, .iload_n 3, 1), (19, .iaload, 1)] := by decide +kernel
theorem dX0_harmOf_0 : decode cX0_harmOf 0 = .ok (.iconst 0, 1) := dz_at dqX0_harmOf_p090 0 rfl
theorem dX0_harmOf_1 : decode cX0_harmOf 1 = .ok (.istore_n 2, 1) := dz_at dqX0_harmOf_p090 1 rfl
theorem dX0_harmOf_2 : decode cX0_harmOf 2 = .ok (.iconst 0, 1) := dz_at dqX0_harmOf_p090 2 rfl
theorem dX0_harmOf_3 : decode cX0_harmOf 3 = .ok (.istore_n 3, 1) := dz_at dqX0_harmOf_p090 3 rfl
theorem dX0_harmOf_4 : decode cX0_harmOf 4 = .ok (.iload_n 3, 1) := dz_at dqX0_harmOf_p090 4 rfl
theorem dX0_harmOf_5 : decode cX0_harmOf 5 = .ok (.iload_n 1, 1) := dz_at dqX0_harmOf_p090 5 rfl
theorem dX0_harmOf_6 : decode cX0_harmOf 6 = .ok (.if_icmp .ge 43, 3) := dz_at dqX0_harmOf_p090 6 rfl
theorem dX0_harmOf_9 : decode cX0_harmOf 9 = .ok (.iload_n 2, 1) := dz_at dqX0_harmOf_p090 7 rfl
theorem dX0_harmOf_10 : decode cX0_harmOf 10 = .ok (.aload_n 0, 1) := dz_at dqX0_harmOf_p090 8 rfl
theorem dX0_harmOf_11 : decode cX0_harmOf 11 = .ok (.getfield 24, 3) := dz_at dqX0_harmOf_p090 9 rfl
theorem dX0_harmOf_14 : decode cX0_harmOf 14 = .ok (.aload_n 0, 1) := dz_at dqX0_harmOf_p090 10 rfl
theorem dX0_harmOf_15 : decode cX0_harmOf 15 = .ok (.getfield 18, 3) := dz_at dqX0_harmOf_p090 11 rfl
theorem dX0_harmOf_18 : decode cX0_harmOf 18 = .ok (.iload_n 3, 1) := dz_at dqX0_harmOf_p090 12 rfl
theorem dX0_harmOf_19 : decode cX0_harmOf 19 = .ok (.iaload, 1) := dz_at dqX0_harmOf_p090 13 rfl
set_option maxRecDepth 20000 in
theorem dqX0_harmOf_p091 : dz_rn 20 (cX0_harmOf.data.toList.drop 20) [(0, 4), (3, 0), (0, 1), (0, 10), (3, 1), (0, 4), (3, 0), (0, 3), (2, 0), (0, 23), (0, 1), (0, 11), (0, 10), (0, 23)] = some [(20, .aload_n 0, 1), (21, .getfield 18, 3), (24, .iload_n 1, 1), (25, .iaload, 1), (26, .invokevirtual 46, 3), (29, .aload_n 0, 1), (30, .getfield 9, 3), (33, .iload_n 3, 1), (34, .bipush 10, 2), (36, .imul, 1), (37, .iload_n 1, 1), (38, .iadd, 1), (39, .iaload, 1), (40, .imul, 1)] := by decide +kernel
theorem dX0_harmOf_20 : decode cX0_harmOf 20 = .ok (.aload_n 0, 1) := dz_at dqX0_harmOf_p091 0 rfl
theorem dX0_harmOf_21 : decode cX0_harmOf 21 = .ok (.getfield 18, 3) := dz_at dqX0_harmOf_p091 1 rfl
theorem dX0_harmOf_24 : decode cX0_harmOf 24 = .ok (.iload_n 1, 1) := dz_at dqX0_harmOf_p091 2 rfl
theorem dX0_harmOf_25 : decode cX0_harmOf 25 = .ok (.iaload, 1) := dz_at dqX0_harmOf_p091 3 rfl
theorem dX0_harmOf_26 : decode cX0_harmOf 26 = .ok (.invokevirtual 46, 3) := dz_at dqX0_harmOf_p091 4 rfl
theorem dX0_harmOf_29 : decode cX0_harmOf 29 = .ok (.aload_n 0, 1) := dz_at dqX0_harmOf_p091 5 rfl
theorem dX0_harmOf_30 : decode cX0_harmOf 30 = .ok (.getfield 9, 3) := dz_at dqX0_harmOf_p091 6 rfl
theorem dX0_harmOf_33 : decode cX0_harmOf 33 = .ok (.iload_n 3, 1) := dz_at dqX0_harmOf_p091 7 rfl
theorem dX0_harmOf_34 : decode cX0_harmOf 34 = .ok (.bipush 10, 2) := dz_at dqX0_harmOf_p091 8 rfl
theorem dX0_harmOf_36 : decode cX0_harmOf 36 = .ok (.imul, 1) := dz_at dqX0_harmOf_p091 9 rfl
theorem dX0_harmOf_37 : decode cX0_harmOf 37 = .ok (.iload_n 1, 1) := dz_at dqX0_harmOf_p091 10 rfl
theorem dX0_harmOf_38 : decode cX0_harmOf 38 = .ok (.iadd, 1) := dz_at dqX0_harmOf_p091 11 rfl
theorem dX0_harmOf_39 : decode cX0_harmOf 39 = .ok (.iaload, 1) := dz_at dqX0_harmOf_p091 12 rfl
theorem dX0_harmOf_40 : decode cX0_harmOf 40 = .ok (.imul, 1) := dz_at dqX0_harmOf_p091 13 rfl
set_option maxRecDepth 20000 in
theorem dqX0_harmOf_p092 : dz_rn 41 (cX0_harmOf.data.toList.drop 41) [(0, 11), (0, 20), (5, 0), (4, 0), (0, 2), (0, 12)] = some [(41, .iadd, 1), (42, .istore_n 2, 1), (43, .iinc 3 1, 3), (46, .goto (-42), 3), (49, .iload_n 2, 1), (50, .ireturn, 1)] := by decide +kernel
theorem dX0_harmOf_41 : decode cX0_harmOf 41 = .ok (.iadd, 1) := dz_at dqX0_harmOf_p092 0 rfl
theorem dX0_harmOf_42 : decode cX0_harmOf 42 = .ok (.istore_n 2, 1) := dz_at dqX0_harmOf_p092 1 rfl
theorem dX0_harmOf_43 : decode cX0_harmOf 43 = .ok (.iinc 3 1, 3) := dz_at dqX0_harmOf_p092 2 rfl
theorem dX0_harmOf_46 : decode cX0_harmOf 46 = .ok (.goto (-42), 3) := dz_at dqX0_harmOf_p092 3 rfl
theorem dX0_harmOf_49 : decode cX0_harmOf 49 = .ok (.iload_n 2, 1) := dz_at dqX0_harmOf_p092 4 rfl
theorem dX0_harmOf_50 : decode cX0_harmOf 50 = .ok (.ireturn, 1) := dz_at dqX0_harmOf_p092 5 rfl
set_option maxHeartbeats 4000000 in
set_option maxRecDepth 100000 in
theorem k_X0_exchangeAlike (l : Launch) (dC : Nat → ClassId) (dI : Nat → Nat → Nat) (cI cZ cQ : ClassId) (a : Nat → Nat) (ali : Nat → Int32) (thi : Nat → Int32) (ctr : Nat → Int32) (cbe : Nat → Int32) (har : Int32) (mar : Nat → Int32) (tol : Nat → Int32) (sz : Nat) (fa : Int32) (fb : Int32) (v : Int32) (r_thi : rg 8 (0) (23) thi) (r_ctr : rg 6 (0) (23) ctr) (r_mar : rg 24 (0) (255) mar) (r_tol : rg 8 (0) (23) tol) (q0 : 0 ≤ fa.toInt) (q1 : fa.toInt ≤ 9) (q2 : 0 ≤ fb.toInt) (q3 : fb.toInt ≤ 9) : KW l yX0_exchangeAlike wsX0_exchangeAlike { frames := 0, cells := 0, slots := 0, locals := 0 } (dC, dI) (TY cI cZ cQ) (wCod cI cZ cQ a ali thi ctr cbe har mar tol) [.ref (a 28), .int fa, .int fb, .int v] sz 0 0 (fun (r : Int32) (u : US) => (r = ali (fa.toInt * 10 + fb.toInt).toNat) ∧ ((u.1 0) = upd (upd ali (fa.toInt * 10 + fb.toInt).toNat v) (fb.toInt * 10 + fa.toInt).toNat v)) (fun u : US => (wCod cI cZ cQ a (u.1 0) thi ctr cbe har mar tol)) := by
  refine Met.ofW (cc := cX0_exchangeAlike) (maxL := 5) (ret := (some .int)) (by decide) rfl ?_
  intro p e s m args below meth c s₁ B hml hv
  obtain ⟨rfl, hsz, hP, hK, hD0, hN⟩ := hv
  have hx := B.exec
  have hb := B.bytes
  have hr := B.returns
  have hts := atoms_spec (ws := wsX0_exchangeAlike) B.pre
  have hown : s.vm.findClass RX0 = some m.cls := findClass_of_methodNamed B.named
  have hlocks := B.notSynchronized
  have lf9 := hts (.fieldLink RX0 9 "PalaceOfRooms$Codes" "alike" "[I") (List.mem_cons_of_mem _ (List.mem_append_left _ (List.mem_of_getElem? (i := 0) rfl)))
  have inX0 : ∀ w ∈ wsX00, w ∈ wsX0_exchangeAlike := fun w h => List.mem_cons_of_mem _ (List.mem_append_right _ h)
  subst hsz
  have hD := hD0.self (sz := s.heap.size)
  generalize hAe : va_A (wCod cI cZ cQ a ali thi ctr cbe har mar tol) s.heap.size = A at hD ⊢
  have hA : ∀ q : Nat, s.heap.size ≤ q → A q := fun q h => by rw [← hAe]; exact Or.inr h
  have hS : va_S A s.heap s.heap [] := va_S.rf
  have hl := lv_entry ([.ref (a 28), .int fa, .int fb, .int v]) (n := 5) (Nat.le_of_ble_eq_true rfl)
  rw [lg_entry_eq]
  generalize (lg_sl ([.ref (a 28), .int fa, .int fb, .int v]) ++ List.replicate (5 - (lg_sl ([.ref (a 28), .int fa, .int fb, .int v])).length) Slot.unset).toArray = ls at hl ⊢
  have hl : lv_has ls 5 [(0, .ref (a 28)), (1, .int fa), (2, .int fb), (3, .int v)] := hl
  refine lv_aload_n hx hb dX0_exchangeAlike_0 rfl (lv_at hl 0 rfl) ?_
  refine va_get (D := (dC, dI)) (ci := 0) (v := .ref (a 29)) (C := RX0) (T := TX0) (N := 6) hx hb hts inX0 hown hK hP 0 rfl rfl 1 (by decide) lf9 (fun _ h9 => h9) rfl dX0_exchangeAlike_1 ?_
  refine lv_iload_n hx hb dX0_exchangeAlike_4 rfl (lv_at hl 1 rfl) ?_
  refine lv_bipush (v := 10) hx hb dX0_exchangeAlike_5 (by decide) ?_
  refine lv_imul hx hb dX0_exchangeAlike_7 ?_
  have f1 : (fa * 10).toInt = (fa.toInt) * (10) := mulC rfl (show (10 : Int32).toInt = 10 from rfl) (by omega) (by omega)
  refine lv_iload_n hx hb dX0_exchangeAlike_8 rfl (lv_at hl 2 rfl) ?_
  refine lv_iadd hx hb dX0_exchangeAlike_9 ?_
  have f2 : ((fa * 10) + fb).toInt = ((fa.toInt) * (10)) + (fb.toInt) := addC f1 rfl (by omega) (by omega)
  have b3 : vp_in ((fa * 10) + fb) 100 := inC f2 (by omega) (by omega)
  refine va_iald hx hb hK hP 1 0 rfl rfl b3 dX0_exchangeAlike_10 ?_
  refine lv_topi (fun x4 ex4 => ?_)
  have ix4 : x4.toInt = (ali ((fa * 10) + fb).toNatClampNeg).toInt := by rw [ex4]
  refine lv_istore (lv' := [(4, .int x4), (0, .ref (a 28)), (1, .int fa), (2, .int fb), (3, .int v)]) hx hb dX0_exchangeAlike_11 hl (by decide) rfl (fun ls hl => ?_)
  refine lv_aload_n hx hb dX0_exchangeAlike_13 rfl (lv_at hl 1 rfl) ?_
  refine va_get (D := (dC, dI)) (ci := 0) (v := .ref (a 29)) (C := RX0) (T := TX0) (N := 6) hx hb hts inX0 hown hK hP 0 rfl rfl 1 (by decide) lf9 (fun _ h9 => h9) rfl dX0_exchangeAlike_14 ?_
  refine lv_iload_n hx hb dX0_exchangeAlike_17 rfl (lv_at hl 2 rfl) ?_
  refine lv_bipush (v := 10) hx hb dX0_exchangeAlike_18 (by decide) ?_
  refine lv_imul hx hb dX0_exchangeAlike_20 ?_
  have f5 : (fa * 10).toInt = (fa.toInt) * (10) := mulC rfl (show (10 : Int32).toInt = 10 from rfl) (by omega) (by omega)
  refine lv_iload_n hx hb dX0_exchangeAlike_21 rfl (lv_at hl 3 rfl) ?_
  refine lv_iadd hx hb dX0_exchangeAlike_22 ?_
  have f6 : ((fa * 10) + fb).toInt = ((fa.toInt) * (10)) + (fb.toInt) := addC f5 rfl (by omega) (by omega)
  refine lv_iload_n hx hb dX0_exchangeAlike_23 rfl (lv_at hl 4 rfl) ?_
  have b7 : vp_in ((fa * 10) + fb) 100 := inC f6 (by omega) (by omega)
  refine va_iast hx hb hK hP hD hS 1 0 rfl rfl b7 dX0_exchangeAlike_24 (fun H locs hP hD hS => ?_)
  obtain ⟨ali_u8, eali_u8⟩ : ∃ f : Nat → Int32, f = upd ali ((fa * 10) + fb).toNatClampNeg v := ⟨_, rfl⟩
  have hP : va_P (dC, dI) vwCl (wCod cI cZ cQ a ali_u8 thi ctr cbe har mar tol) H := by rw [eali_u8]; exact hP
  have hD : va_D A (wCod cI cZ cQ a ali_u8 thi ctr cbe har mar tol) := by rw [eali_u8]; exact hD
  refine lv_aload_n hx hb dX0_exchangeAlike_25 rfl (lv_at hl 1 rfl) ?_
  refine va_get (D := (dC, dI)) (ci := 0) (v := .ref (a 29)) (C := RX0) (T := TX0) (N := 6) hx hb hts inX0 hown hK hP 0 rfl rfl 1 (by decide) lf9 (fun _ h9 => h9) rfl dX0_exchangeAlike_26 ?_
  refine lv_iload_n hx hb dX0_exchangeAlike_29 rfl (lv_at hl 3 rfl) ?_
  refine lv_bipush (v := 10) hx hb dX0_exchangeAlike_30 (by decide) ?_
  refine lv_imul hx hb dX0_exchangeAlike_32 ?_
  have f9 : (fb * 10).toInt = (fb.toInt) * (10) := mulC rfl (show (10 : Int32).toInt = 10 from rfl) (by omega) (by omega)
  refine lv_iload_n hx hb dX0_exchangeAlike_33 rfl (lv_at hl 2 rfl) ?_
  refine lv_iadd hx hb dX0_exchangeAlike_34 ?_
  have f10 : ((fb * 10) + fa).toInt = ((fb.toInt) * (10)) + (fa.toInt) := addC f9 rfl (by omega) (by omega)
  refine lv_iload_n hx hb dX0_exchangeAlike_35 rfl (lv_at hl 4 rfl) ?_
  have b11 : vp_in ((fb * 10) + fa) 100 := inC f10 (by omega) (by omega)
  refine va_iast hx hb hK hP hD hS 1 0 rfl rfl b11 dX0_exchangeAlike_36 (fun H locs hP hD hS => ?_)
  obtain ⟨ali_u12, eali_u12⟩ : ∃ f : Nat → Int32, f = upd ali_u8 ((fb * 10) + fa).toNatClampNeg v := ⟨_, rfl⟩
  have hP : va_P (dC, dI) vwCl (wCod cI cZ cQ a ali_u12 thi ctr cbe har mar tol) H := by rw [eali_u12]; exact hP
  have hD : va_D A (wCod cI cZ cQ a ali_u12 thi ctr cbe har mar tol) := by rw [eali_u12]; exact hD
  refine lv_iload hx hb dX0_exchangeAlike_37 (lv_at hl 0 rfl) ?_
  exact W.iret (v := x4) hx hb hr (fun t ht hW => ⟨⟨x4, (uS [ali_u12] 0 (fun _ => 0)), rfl, ⟨(show x4 = ali (fa.toInt * 10 + fb.toInt).toNat from by (subst_vars; rw [clC (x := fa * 10 + fb) (X := fa.toInt * 10 + fb.toInt) (by assumption)])), (show ali_u12 = upd (upd ali (fa.toInt * 10 + fb.toInt).toNat v) (fb.toInt * 10 + fa.toInt).toNat v from by (subst_vars; rw [clC (x := fa * 10 + fb) (X := fa.toInt * 10 + fb.toInt) (by assumption), clC (x := fb * 10 + fa) (X := fb.toInt * 10 + fa.toInt) (by assumption)]))⟩, by rw [ht]; exact hP, hD⟩, hS.F ht⟩) hS.2.2 dX0_exchangeAlike_39
set_option maxHeartbeats 4000000 in
set_option maxRecDepth 100000 in
theorem k_X0_harmOf (l : Launch) (dC : Nat → ClassId) (dI : Nat → Nat → Nat) (cI cZ cQ : ClassId) (a : Nat → Nat) (ali : Nat → Int32) (thi : Nat → Int32) (ctr : Nat → Int32) (cbe : Nat → Int32) (har : Int32) (mar : Nat → Int32) (tol : Nat → Int32) (fi : Int32) (r_thi : rg 8 (0) (23) thi) (r_ctr : rg 6 (0) (23) ctr) (r_mar : rg 24 (0) (255) mar) (r_tol : rg 8 (0) (23) tol) (q0 : 0 ≤ fi.toInt) (q1 : fi.toInt ≤ 5) : KR l yX0_harmOf wsX0_harmOf { frames := 2, cells := 0, slots := 0, locals := 42 } (dC, dI) (TY cI cZ cQ) (wCod cI cZ cQ a ali thi ctr cbe har mar tol) [.ref (a 28), .int fi] (fun r : Int32 => True) := by
  refine Met.ofW (cc := cX0_harmOf) (maxL := 4) (ret := (some .int)) (by decide) rfl ?_
  intro p e s m args below meth c s₁ B hml hv
  obtain ⟨rfl, hP, hK, hN⟩ := hv
  have hx := B.exec
  have hb := B.bytes
  have hr := B.returns
  have hts := atoms_spec (ws := wsX0_harmOf) B.pre
  have hown : s.vm.findClass RX0 = some m.cls := findClass_of_methodNamed B.named
  have hlocks := B.notSynchronized
  have lf24 := hts (.fieldLink RX0 24 "PalaceOfRooms$Codes" "pictures" "LPalaceOfRooms$Pictures;") (List.mem_cons_of_mem _ (List.mem_append_left _ (List.mem_append_left _ (List.mem_of_getElem? (i := 0) rfl))))
  have inX0 : ∀ w ∈ wsX00, w ∈ wsX0_harmOf := fun w h => List.mem_cons_of_mem _ (List.mem_append_left _ (List.mem_append_right _ h))
  have lf18 := hts (.fieldLink RX0 18 "PalaceOfRooms$Codes" "trial" "[I") (List.mem_cons_of_mem _ (List.mem_append_left _ (List.mem_append_left _ (List.mem_of_getElem? (i := 1) rfl))))
  have lf9 := hts (.fieldLink RX0 9 "PalaceOfRooms$Codes" "alike" "[I") (List.mem_cons_of_mem _ (List.mem_append_left _ (List.mem_append_left _ (List.mem_of_getElem? (i := 2) rfl))))
  have hl := lv_entry ([.ref (a 28), .int fi]) (n := 4) (Nat.le_of_ble_eq_true rfl)
  rw [lg_entry_eq]
  generalize (lg_sl ([.ref (a 28), .int fi]) ++ List.replicate (4 - (lg_sl ([.ref (a 28), .int fi])).length) Slot.unset).toArray = ls at hl ⊢
  have hl : lv_has ls 4 [(0, .ref (a 28)), (1, .int fi)] := hl
  refine lv_iconst (v := 0) hx hb dX0_harmOf_0 (by decide) ?_
  refine lv_istore_n (lv' := [(2, .int 0), (0, .ref (a 28)), (1, .int fi)]) hx hb dX0_harmOf_1 rfl hl (by decide) rfl (fun ls hl => ?_)
  refine lv_iconst (v := 0) hx hb dX0_harmOf_2 (by decide) ?_
  refine lv_istore_n (lv' := [(3, .int 0), (2, .int 0), (0, .ref (a 28)), (1, .int fi)]) hx hb dX0_harmOf_3 rfl hl (by decide) rfl (fun ls hl => ?_)
  have L4 : ∀ (nn : Nat) (y4_2 : Int32) (y4_3 : Int32) (ls : Array Slot), (0 ≤ (y4_3.toInt)) → ((y4_3.toInt) ≤ 5) → (5 - (y4_3.toInt)).toNat < nn → lv_has ls 4 [(0, .ref (a 28)), (1, .int fi), (2, .int y4_2), (3, .int y4_3)] → W p l e (headSpec wsX0_harmOf { frames := 2, cells := 0, slots := 0, locals := 42 }).room s m ([.ref (a 28), .int fi] : List Value).toArray below meth c s.heap [] 0 0 (MQ below (QR (fun r : Int32 => True)) ([.ref (a 28), .int fi] : List Value).toArray s 0 0 (fun _ => False)) (F0 m 4 ls []) := by
    intro nn
    induction nn with
    | zero =>
      intro y4_2 y4_3 ls i4_0 i4_1 hm
      exact absurd hm (Nat.not_lt_zero _)
    | succ nn ih4 =>
      intro y4_2 y4_3 ls i4_0 i4_1 hm hl
      refine lv_iload_n hx hb dX0_harmOf_4 rfl (lv_at hl 3 rfl) ?_
      refine lv_iload_n hx hb dX0_harmOf_5 rfl (lv_at hl 1 rfl) ?_
      refine lv_icmp_ge (tgt := 49) hx hb dX0_harmOf_6 (by decide) (fun c1 => ?_) (fun c1 => ?_)
      · have dc1 : fi.toInt ≤ y4_3.toInt := leC rfl rfl c1
        refine lv_iload_n hx hb dX0_harmOf_49 rfl (lv_at hl 2 rfl) ?_
        exact W.iret (v := y4_2) hx hb hr (fun t ht hW => ⟨y4_2, rfl, trivial, ht⟩) (fun q h => by cases h) dX0_harmOf_50
      · have dc1 : y4_3.toInt < fi.toInt := nleC rfl rfl c1
        refine lv_iload_n hx hb dX0_harmOf_9 rfl (lv_at hl 2 rfl) ?_
        refine lv_aload_n hx hb dX0_harmOf_10 rfl (lv_at hl 0 rfl) ?_
        refine va_get (D := (dC, dI)) (ci := 0) (v := .ref (a 2)) (C := RX0) (T := TX0) (N := 6) hx hb hts inX0 hown hK hP 0 rfl rfl 0 (by decide) lf24 (fun _ h9 => h9) rfl dX0_harmOf_11 ?_
        refine lv_aload_n hx hb dX0_harmOf_14 rfl (lv_at hl 0 rfl) ?_
        refine va_get (D := (dC, dI)) (ci := 0) (v := .ref (a 31)) (C := RX0) (T := TX0) (N := 6) hx hb hts inX0 hown hK hP 0 rfl rfl 3 (by decide) lf18 (fun _ h9 => h9) rfl dX0_harmOf_15 ?_
        refine lv_iload_n hx hb dX0_harmOf_18 rfl (lv_at hl 3 rfl) ?_
        have b2 : vp_in y4_3 6 := inC rfl (by omega) (by omega)
        refine va_iald hx hb hK hP 3 0 rfl rfl b2 dX0_harmOf_19 ?_
        have g3 : 0 ≤ (ctr y4_3.toNatClampNeg).toInt ∧ (ctr y4_3.toNatClampNeg).toInt ≤ 23 := rg_at r_ctr b2
        refine lv_aload_n hx hb dX0_harmOf_20 rfl (lv_at hl 0 rfl) ?_
        refine va_get (D := (dC, dI)) (ci := 0) (v := .ref (a 31)) (C := RX0) (T := TX0) (N := 6) hx hb hts inX0 hown hK hP 0 rfl rfl 3 (by decide) lf18 (fun _ h9 => h9) rfl dX0_harmOf_21 ?_
        refine lv_iload_n hx hb dX0_harmOf_24 rfl (lv_at hl 1 rfl) ?_
        have b4 : vp_in fi 6 := inC rfl (by omega) (by omega)
        refine va_iald hx hb hK hP 3 0 rfl rfl b4 dX0_harmOf_25 ?_
        have g5 : 0 ≤ (ctr fi.toNatClampNeg).toInt ∧ (ctr fi.toNatClampNeg).toInt ≤ 23 := rg_at r_ctr b4
        refine rdV (As := [.int (ctr y4_3.toNatClampNeg), .int (ctr fi.toNatClampNeg)]) (rest := [.int y4_2]) ⟨hx, hb, hml, hown, hts⟩ (k_X2_shared l dC dI cI cZ cQ a mar (ctr y4_3.toNatClampNeg) (ctr fi.toNatClampNeg) r_mar (by omega) (by omega) (by omega) (by omega)) (cwV 2 hts gX0_harmOf_X2_shared rfl rfl rfl (by decide +kernel) ⟨Nat.le_of_ble_eq_true rfl, Nat.le_of_ble_eq_true rfl⟩) hP hK hN [5, 6] rfl 5 2 rfl rfl rfl hl.1 rfl (Nat.le_of_ble_eq_true rfl) dX0_harmOf_26 ⟨Nat.le_of_ble_eq_true rfl, Nat.le_of_ble_eq_true rfl⟩ (fun r6 h7 => ?_)
        have h7 : (r6 = bc (mar (ctr y4_3.toNatClampNeg).toNatClampNeg &&& mar (ctr fi.toNatClampNeg).toNatClampNeg)) := h7
        have h7_0 := h7
        refine lv_aload_n hx hb dX0_harmOf_29 rfl (lv_at hl 0 rfl) ?_
        refine va_get (D := (dC, dI)) (ci := 0) (v := .ref (a 29)) (C := RX0) (T := TX0) (N := 6) hx hb hts inX0 hown hK hP 0 rfl rfl 1 (by decide) lf9 (fun _ h9 => h9) rfl dX0_harmOf_30 ?_
        refine lv_iload_n hx hb dX0_harmOf_33 rfl (lv_at hl 3 rfl) ?_
        refine lv_bipush (v := 10) hx hb dX0_harmOf_34 (by decide) ?_
        refine lv_imul hx hb dX0_harmOf_36 ?_
        have f8 : (y4_3 * 10).toInt = (y4_3.toInt) * (10) := mulC rfl (show (10 : Int32).toInt = 10 from rfl) (by omega) (by omega)
        refine lv_iload_n hx hb dX0_harmOf_37 rfl (lv_at hl 1 rfl) ?_
        refine lv_iadd hx hb dX0_harmOf_38 ?_
        have f9 : ((y4_3 * 10) + fi).toInt = ((y4_3.toInt) * (10)) + (fi.toInt) := addC f8 rfl (by omega) (by omega)
        have b10 : vp_in ((y4_3 * 10) + fi) 100 := inC f9 (by omega) (by omega)
        refine va_iald hx hb hK hP 1 0 rfl rfl b10 dX0_harmOf_39 ?_
        refine lv_imul hx hb dX0_harmOf_40 ?_
        refine lv_iadd hx hb dX0_harmOf_41 ?_
        refine lv_topi (fun x11 ex11 => ?_)
        have ix11 : x11.toInt = (y4_2 + (r6 * (ali ((y4_3 * 10) + fi).toNatClampNeg))).toInt := by rw [ex11]
        refine lv_istore_n (lv' := [(2, .int x11), (0, .ref (a 28)), (1, .int fi), (3, .int y4_3)]) hx hb dX0_harmOf_42 rfl hl (by decide) rfl (fun ls hl => ?_)
        obtain ⟨z12, ez12⟩ : ∃ y : Int32, y = y4_3 + 1 := ⟨_, rfl⟩
        have iz12 : z12.toInt = y4_3.toInt + 1 := by rw [ez12]; exact addC rfl rfl (by omega) (by omega)
        refine lv_iinc (v := z12) (lv' := [(3, .int z12), (2, .int x11), (0, .ref (a 28)), (1, .int fi)]) hx hb dX0_harmOf_43 hl (k := 3) rfl (by rw [ez12]; rfl) (by decide) rfl (fun ls hl => ?_)
        refine lv_goto (tgt := 4) hx hb dX0_harmOf_46 (by decide) ?_
        exact ih4 x11 z12 _ (by omega) (by omega) (by omega) (lv_sub hl [2, 3, 1, 0] rfl)
  have kc13 : (0 : Int32).toInt = 0 := rfl
  exact L4 _ 0 0 _ (by omega) (by omega) (Nat.lt_succ_self _) (lv_sub hl [2, 3, 1, 0] rfl)
set_option maxHeartbeats 4000000 in
set_option maxRecDepth 100000 in
theorem k_X0_seek_0 (l : Launch) (dC : Nat → ClassId) (dI : Nat → Nat → Nat) (cI cZ cQ : ClassId) (a : Nat → Nat) (ali : Nat → Int32) (thi : Nat → Int32) (ctr : Nat → Int32) (cbe : Nat → Int32) (har : Int32) (mar : Nat → Int32) (tol : Nat → Int32) (sz : Nat) (fi : Int32) (n : Int32) (us : Int32) (ha : Int32) (r_thi : rg 8 (0) (23) thi) (r_ctr : rg 6 (0) (23) ctr) (r_mar : rg 24 (0) (255) mar) (r_tol : rg 8 (0) (23) tol) (q0 : 6 ≤ fi.toInt) (q1 : fi.toInt ≤ 6) (q2 : 2 ≤ n.toInt) (q3 : n.toInt ≤ 6) : KV l yX0_seek wsX0_seek { frames := 3, cells := 0, slots := 0, locals := 65 } (dC, dI) (TY cI cZ cQ) (wCod cI cZ cQ a ali thi ctr cbe har mar tol) [.ref (a 28), .int fi, .int n, .int us, .int ha] sz 0 0 (fun (u : US) => (rg 6 (0) (23) (u.1 0))) (fun u : US => (wCod cI cZ cQ a ali thi (u.1 0) (u.1 1) (u.1 2 0) mar tol)) := by
  refine Met.ofW (cc := cX0_seek) (maxL := 6) (ret := none) (by decide) rfl ?_
  intro p e s m args below meth c s₁ B hml hv
  obtain ⟨rfl, hsz, hP, hK, hD0, hN⟩ := hv
  have hx := B.exec
  have hb := B.bytes
  have hr := B.returns
  have hts := atoms_spec (ws := wsX0_seek) B.pre
  have hown : s.vm.findClass RX0 = some m.cls := findClass_of_methodNamed B.named
  have hlocks := B.notSynchronized
  have lf34 := hts (.fieldLink RX0 34 "PalaceOfRooms$Codes" "bestHarm" "I") (List.mem_cons_of_mem _ (List.mem_append_left _ (List.mem_append_left _ (List.mem_append_left _ (List.mem_of_getElem? (i := 0) rfl)))))
  have inX0 : ∀ w ∈ wsX00, w ∈ wsX0_seek := fun w h => List.mem_cons_of_mem _ (List.mem_append_left _ (List.mem_append_right _ h))
  have lf18 := hts (.fieldLink RX0 18 "PalaceOfRooms$Codes" "trial" "[I") (List.mem_cons_of_mem _ (List.mem_append_left _ (List.mem_append_left _ (List.mem_append_left _ (List.mem_of_getElem? (i := 1) rfl)))))
  have lf21 := hts (.fieldLink RX0 21 "PalaceOfRooms$Codes" "best" "[I") (List.mem_cons_of_mem _ (List.mem_append_left _ (List.mem_append_left _ (List.mem_append_left _ (List.mem_of_getElem? (i := 2) rfl)))))
  subst hsz
  have hD := hD0.self (sz := s.heap.size)
  generalize hAe : va_A (wCod cI cZ cQ a ali thi ctr cbe har mar tol) s.heap.size = A at hD ⊢
  have hA : ∀ q : Nat, s.heap.size ≤ q → A q := fun q h => by rw [← hAe]; exact Or.inr h
  have hS : va_S A s.heap s.heap [] := va_S.rf
  have hl := lv_entry ([.ref (a 28), .int fi, .int n, .int us, .int ha]) (n := 6) (Nat.le_of_ble_eq_true rfl)
  rw [lg_entry_eq]
  generalize (lg_sl ([.ref (a 28), .int fi, .int n, .int us, .int ha]) ++ List.replicate (6 - (lg_sl ([.ref (a 28), .int fi, .int n, .int us, .int ha])).length) Slot.unset).toArray = ls at hl ⊢
  have hl : lv_has ls 6 [(0, .ref (a 28)), (1, .int fi), (2, .int n), (3, .int us), (4, .int ha)] := hl
  refine lv_iload hx hb dX0_seek_0 (lv_at hl 4 rfl) ?_
  refine lv_aload_n hx hb dX0_seek_2 rfl (lv_at hl 0 rfl) ?_
  refine va_get (D := (dC, dI)) (ci := 0) (v := .int har) (C := RX0) (T := TX0) (N := 6) hx hb hts inX0 hown hK hP 0 rfl rfl 5 (by decide) lf34 (fun _ h9 => h9) rfl dX0_seek_3 ?_
  refine lv_icmp_lt (tgt := 10) hx hb dX0_seek_6 (by decide) (fun c1 => ?_) (fun c1 => ?_)
  · have dc1 : ha.toInt < har.toInt := ltC rfl rfl c1
    refine lv_iload_n hx hb dX0_seek_10 rfl (lv_at hl 1 rfl) ?_
    refine lv_iload_n hx hb dX0_seek_11 rfl (lv_at hl 2 rfl) ?_
    refine lv_icmp_ge (tgt := 21) hx hb dX0_seek_12 (by decide) (fun c2 => ?_) (fun c2 => ?_)
    · have dc2 : n.toInt ≤ fi.toInt := leC rfl rfl c2
      refine lv_aload_n hx hb dX0_seek_21 rfl (lv_at hl 0 rfl) ?_
      refine lv_iload hx hb dX0_seek_22 (lv_at hl 4 rfl) ?_
      refine va_put (D := (dC, dI)) (ci := 0) (v := .int ha) (ty := .int) (C := RX0) (T := TX0) (N := 6) hx hb hts inX0 tyX0 tyX0_ok nmX0 hown hK hP hD hS 0 rfl rfl 5 (by decide) lf34 (fun _ h9 => h9) rfl (by decide +kernel) rfl rfl (Nat.le_of_ble_eq_true rfl) dX0_seek_24 (fun H locs hP hD hS => ?_)
      have hP : va_P (dC, dI) vwCl (wCod cI cZ cQ a ali thi ctr cbe ha mar tol) H := hP
      have hD : va_D A (wCod cI cZ cQ a ali thi ctr cbe ha mar tol) := hD
      refine lv_aload_n hx hb dX0_seek_27 rfl (lv_at hl 0 rfl) ?_
      refine va_get (D := (dC, dI)) (ci := 0) (v := .ref (a 31)) (C := RX0) (T := TX0) (N := 6) hx hb hts inX0 hown hK hP 0 rfl rfl 3 (by decide) lf18 (fun _ h9 => h9) rfl dX0_seek_28 ?_
      refine lv_iconst (v := 0) hx hb dX0_seek_31 (by decide) ?_
      refine lv_aload_n hx hb dX0_seek_32 rfl (lv_at hl 0 rfl) ?_
      refine va_get (D := (dC, dI)) (ci := 0) (v := .ref (a 32)) (C := RX0) (T := TX0) (N := 6) hx hb hts inX0 hown hK hP 0 rfl rfl 4 (by decide) lf21 (fun _ h9 => h9) rfl dX0_seek_33 ?_
      refine lv_iconst (v := 0) hx hb dX0_seek_36 (by decide) ?_
      refine lv_bipush (v := 6) hx hb dX0_seek_37 (by decide) ?_
      refine va_copyi (ty := .int) (n := 6) hx hb (by rw [hml]; exact hl.1.symm) hown (hts (.methodLink RX0 28 arraycopyName) (List.mem_cons_of_mem _ (List.mem_append_left _ (List.mem_append_left _ (List.mem_append_left _ (List.mem_of_getElem? (i := 3) rfl)))))) (hts (.native arraycopyName) (List.mem_cons_of_mem _ (List.mem_append_left _ (List.mem_append_left _ (List.mem_append_left _ (List.mem_of_getElem? (i := 4) rfl)))))) (hts (.static arraycopyName) (List.mem_cons_of_mem _ (List.mem_append_left _ (List.mem_append_left _ (List.mem_append_left _ (List.mem_of_getElem? (i := 5) rfl)))))) (hts (.initialized "java/lang/System") (List.mem_cons_of_mem _ (List.mem_append_left _ (List.mem_append_left _ (List.mem_append_left _ (List.mem_of_getElem? (i := 6) rfl)))))) hK hP hD hS 3 4 0 0 rfl rfl rfl rfl rfl (by decide) (by decide) (by decide) (by decide) (by decide) (fun _ _ => rfl) (Nat.le_of_ble_eq_true rfl) (Nat.le_of_ble_eq_true rfl) dX0_seek_39 (fun H locs hP hD hS => ?_)
      obtain ⟨cbe_u3, ecbe_u3⟩ : ∃ f : Nat → Int32, f = va_cpy ctr cbe 0 0 6 := ⟨_, rfl⟩
      have hP : va_P (dC, dI) vwCl (wCod cI cZ cQ a ali thi ctr cbe_u3 ha mar tol) H := by rw [ecbe_u3]; exact hP
      have hD : va_D A (wCod cI cZ cQ a ali thi ctr cbe_u3 ha mar tol) := by rw [ecbe_u3]; exact hD
      exact W.vret hx hb hr (fun t ht hW => ⟨⟨(uS [ctr, cbe_u3, (fun _ => ha)] 0 (fun _ => 0)), rfl, r_ctr, by rw [ht]; exact hP, hD⟩, hS.F ht⟩) hS.2.2 dX0_seek_42
    · have dc2 : fi.toInt < n.toInt := nleC rfl rfl c2
      exfalso
      omega
  · have dc1 : har.toInt ≤ ha.toInt := nltC rfl rfl c1
    exact W.vret hx hb hr (fun t ht hW => ⟨⟨(uS [ctr, cbe, (fun _ => har)] 0 (fun _ => 0)), rfl, r_ctr, by rw [ht]; exact hP, hD⟩, hS.F ht⟩) hS.2.2 dX0_seek_9
set_option maxHeartbeats 4000000 in
set_option maxRecDepth 100000 in
theorem k_X0_seek_1 (l : Launch) (dC : Nat → ClassId) (dI : Nat → Nat → Nat) (cI cZ cQ : ClassId) (a : Nat → Nat) (ali : Nat → Int32) (thi : Nat → Int32) (ctr : Nat → Int32) (cbe : Nat → Int32) (har : Int32) (mar : Nat → Int32) (tol : Nat → Int32) (sz : Nat) (fi : Int32) (n : Int32) (us : Int32) (ha : Int32) (r_thi : rg 8 (0) (23) thi) (r_ctr : rg 6 (0) (23) ctr) (r_mar : rg 24 (0) (255) mar) (r_tol : rg 8 (0) (23) tol) (q0 : 5 ≤ fi.toInt) (q1 : fi.toInt ≤ 6) (q2 : 2 ≤ n.toInt) (q3 : n.toInt ≤ 6) : KV l yX0_seek wsX0_seek { frames := 4, cells := 0, slots := 0, locals := 90 } (dC, dI) (TY cI cZ cQ) (wCod cI cZ cQ a ali thi ctr cbe har mar tol) [.ref (a 28), .int fi, .int n, .int us, .int ha] sz 0 0 (fun (u : US) => (rg 6 (0) (23) (u.1 0))) (fun u : US => (wCod cI cZ cQ a ali thi (u.1 0) (u.1 1) (u.1 2 0) mar tol)) := by
  refine Met.ofW (cc := cX0_seek) (maxL := 6) (ret := none) (by decide) rfl ?_
  intro p e s m args below meth c s₁ B hml hv
  obtain ⟨rfl, hsz, hP, hK, hD0, hN⟩ := hv
  have hx := B.exec
  have hb := B.bytes
  have hr := B.returns
  have hts := atoms_spec (ws := wsX0_seek) B.pre
  have hown : s.vm.findClass RX0 = some m.cls := findClass_of_methodNamed B.named
  have hlocks := B.notSynchronized
  have lf34 := hts (.fieldLink RX0 34 "PalaceOfRooms$Codes" "bestHarm" "I") (List.mem_cons_of_mem _ (List.mem_append_left _ (List.mem_append_left _ (List.mem_append_left _ (List.mem_of_getElem? (i := 0) rfl)))))
  have inX0 : ∀ w ∈ wsX00, w ∈ wsX0_seek := fun w h => List.mem_cons_of_mem _ (List.mem_append_left _ (List.mem_append_right _ h))
  have lf18 := hts (.fieldLink RX0 18 "PalaceOfRooms$Codes" "trial" "[I") (List.mem_cons_of_mem _ (List.mem_append_left _ (List.mem_append_left _ (List.mem_append_left _ (List.mem_of_getElem? (i := 1) rfl)))))
  have lf21 := hts (.fieldLink RX0 21 "PalaceOfRooms$Codes" "best" "[I") (List.mem_cons_of_mem _ (List.mem_append_left _ (List.mem_append_left _ (List.mem_append_left _ (List.mem_of_getElem? (i := 2) rfl)))))
  have lf15 := hts (.fieldLink RX0 15 "PalaceOfRooms$Codes" "things" "[I") (List.mem_cons_of_mem _ (List.mem_append_left _ (List.mem_append_left _ (List.mem_append_left _ (List.mem_of_getElem? (i := 7) rfl)))))
  subst hsz
  have hD := hD0.self (sz := s.heap.size)
  generalize hAe : va_A (wCod cI cZ cQ a ali thi ctr cbe har mar tol) s.heap.size = A at hD ⊢
  have hA : ∀ q : Nat, s.heap.size ≤ q → A q := fun q h => by rw [← hAe]; exact Or.inr h
  have hS : va_S A s.heap s.heap [] := va_S.rf
  have hl := lv_entry ([.ref (a 28), .int fi, .int n, .int us, .int ha]) (n := 6) (Nat.le_of_ble_eq_true rfl)
  rw [lg_entry_eq]
  generalize (lg_sl ([.ref (a 28), .int fi, .int n, .int us, .int ha]) ++ List.replicate (6 - (lg_sl ([.ref (a 28), .int fi, .int n, .int us, .int ha])).length) Slot.unset).toArray = ls at hl ⊢
  have hl : lv_has ls 6 [(0, .ref (a 28)), (1, .int fi), (2, .int n), (3, .int us), (4, .int ha)] := hl
  refine lv_iload hx hb dX0_seek_0 (lv_at hl 4 rfl) ?_
  refine lv_aload_n hx hb dX0_seek_2 rfl (lv_at hl 0 rfl) ?_
  refine va_get (D := (dC, dI)) (ci := 0) (v := .int har) (C := RX0) (T := TX0) (N := 6) hx hb hts inX0 hown hK hP 0 rfl rfl 5 (by decide) lf34 (fun _ h9 => h9) rfl dX0_seek_3 ?_
  refine lv_icmp_lt (tgt := 10) hx hb dX0_seek_6 (by decide) (fun c1 => ?_) (fun c1 => ?_)
  · have dc1 : ha.toInt < har.toInt := ltC rfl rfl c1
    refine lv_iload_n hx hb dX0_seek_10 rfl (lv_at hl 1 rfl) ?_
    refine lv_iload_n hx hb dX0_seek_11 rfl (lv_at hl 2 rfl) ?_
    refine lv_icmp_ge (tgt := 21) hx hb dX0_seek_12 (by decide) (fun c2 => ?_) (fun c2 => ?_)
    · have dc2 : n.toInt ≤ fi.toInt := leC rfl rfl c2
      refine lv_aload_n hx hb dX0_seek_21 rfl (lv_at hl 0 rfl) ?_
      refine lv_iload hx hb dX0_seek_22 (lv_at hl 4 rfl) ?_
      refine va_put (D := (dC, dI)) (ci := 0) (v := .int ha) (ty := .int) (C := RX0) (T := TX0) (N := 6) hx hb hts inX0 tyX0 tyX0_ok nmX0 hown hK hP hD hS 0 rfl rfl 5 (by decide) lf34 (fun _ h9 => h9) rfl (by decide +kernel) rfl rfl (Nat.le_of_ble_eq_true rfl) dX0_seek_24 (fun H locs hP hD hS => ?_)
      have hP : va_P (dC, dI) vwCl (wCod cI cZ cQ a ali thi ctr cbe ha mar tol) H := hP
      have hD : va_D A (wCod cI cZ cQ a ali thi ctr cbe ha mar tol) := hD
      refine lv_aload_n hx hb dX0_seek_27 rfl (lv_at hl 0 rfl) ?_
      refine va_get (D := (dC, dI)) (ci := 0) (v := .ref (a 31)) (C := RX0) (T := TX0) (N := 6) hx hb hts inX0 hown hK hP 0 rfl rfl 3 (by decide) lf18 (fun _ h9 => h9) rfl dX0_seek_28 ?_
      refine lv_iconst (v := 0) hx hb dX0_seek_31 (by decide) ?_
      refine lv_aload_n hx hb dX0_seek_32 rfl (lv_at hl 0 rfl) ?_
      refine va_get (D := (dC, dI)) (ci := 0) (v := .ref (a 32)) (C := RX0) (T := TX0) (N := 6) hx hb hts inX0 hown hK hP 0 rfl rfl 4 (by decide) lf21 (fun _ h9 => h9) rfl dX0_seek_33 ?_
      refine lv_iconst (v := 0) hx hb dX0_seek_36 (by decide) ?_
      refine lv_bipush (v := 6) hx hb dX0_seek_37 (by decide) ?_
      refine va_copyi (ty := .int) (n := 6) hx hb (by rw [hml]; exact hl.1.symm) hown (hts (.methodLink RX0 28 arraycopyName) (List.mem_cons_of_mem _ (List.mem_append_left _ (List.mem_append_left _ (List.mem_append_left _ (List.mem_of_getElem? (i := 3) rfl)))))) (hts (.native arraycopyName) (List.mem_cons_of_mem _ (List.mem_append_left _ (List.mem_append_left _ (List.mem_append_left _ (List.mem_of_getElem? (i := 4) rfl)))))) (hts (.static arraycopyName) (List.mem_cons_of_mem _ (List.mem_append_left _ (List.mem_append_left _ (List.mem_append_left _ (List.mem_of_getElem? (i := 5) rfl)))))) (hts (.initialized "java/lang/System") (List.mem_cons_of_mem _ (List.mem_append_left _ (List.mem_append_left _ (List.mem_append_left _ (List.mem_of_getElem? (i := 6) rfl)))))) hK hP hD hS 3 4 0 0 rfl rfl rfl rfl rfl (by decide) (by decide) (by decide) (by decide) (by decide) (fun _ _ => rfl) (Nat.le_of_ble_eq_true rfl) (Nat.le_of_ble_eq_true rfl) dX0_seek_39 (fun H locs hP hD hS => ?_)
      obtain ⟨cbe_u3, ecbe_u3⟩ : ∃ f : Nat → Int32, f = va_cpy ctr cbe 0 0 6 := ⟨_, rfl⟩
      have hP : va_P (dC, dI) vwCl (wCod cI cZ cQ a ali thi ctr cbe_u3 ha mar tol) H := by rw [ecbe_u3]; exact hP
      have hD : va_D A (wCod cI cZ cQ a ali thi ctr cbe_u3 ha mar tol) := by rw [ecbe_u3]; exact hD
      exact W.vret hx hb hr (fun t ht hW => ⟨⟨(uS [ctr, cbe_u3, (fun _ => ha)] 0 (fun _ => 0)), rfl, r_ctr, by rw [ht]; exact hP, hD⟩, hS.F ht⟩) hS.2.2 dX0_seek_42
    · have dc2 : fi.toInt < n.toInt := nleC rfl rfl c2
      refine lv_iload_n hx hb dX0_seek_15 rfl (lv_at hl 1 rfl) ?_
      refine lv_bipush (v := 6) hx hb dX0_seek_16 (by decide) ?_
      refine lv_icmp_lt (tgt := 43) hx hb dX0_seek_18 (by decide) (fun c4 => ?_) (fun c4 => ?_)
      · have dc4 : fi.toInt < 6 := ltC rfl (show (6 : Int32).toInt = 6 from rfl) c4
        refine lv_iconst (v := 0) hx hb dX0_seek_43 (by decide) ?_
        refine lv_istore (lv' := [(5, .int 0), (0, .ref (a 28)), (1, .int fi), (2, .int n), (3, .int us), (4, .int ha)]) hx hb dX0_seek_44 hl (by decide) rfl (fun ls hl => ?_)
        have L46 : ∀ (nn : Nat) (y46_5 : Int32) (ctr_46 : Nat → Int32) (cbe_46 : Nat → Int32) (har_46 : Int32) (H : Heap) (locs : List Loc) (ls : Array Slot), (rg 6 (0) (23) ctr_46) → (0 ≤ (y46_5.toInt)) → ((y46_5.toInt) ≤ 6) → (6 - (y46_5.toInt)).toNat < nn → va_P (dC, dI) vwCl (wCod cI cZ cQ a ali thi ctr_46 cbe_46 har_46 mar tol) H → va_D A (wCod cI cZ cQ a ali thi ctr_46 cbe_46 har_46 mar tol) → va_S A s.heap H locs → lv_has ls 6 [(0, .ref (a 28)), (1, .int fi), (2, .int n), (3, .int us), (4, .int ha), (5, .int y46_5)] → W p l e (headSpec wsX0_seek { frames := 4, cells := 0, slots := 0, locals := 90 }).room s m ([.ref (a 28), .int fi, .int n, .int us, .int ha] : List Value).toArray below meth c H locs 0 0 (MQ below (va_Qv (fun (u : US) => (rg 6 (0) (23) (u.1 0))) (Bw (dC, dI) A (fun u : US => (wCod cI cZ cQ a ali thi (u.1 0) (u.1 1) (u.1 2 0) mar tol))) A) ([.ref (a 28), .int fi, .int n, .int us, .int ha] : List Value).toArray s 0 0 A) (F0 m 46 ls []) := by
          intro nn
          induction nn with
          | zero =>
            intro y46_5 ctr_46 cbe_46 har_46 H locs ls r_ctr_46 i46_0 i46_1 hm
            exact absurd hm (Nat.not_lt_zero _)
          | succ nn ih46 =>
            intro y46_5 ctr_46 cbe_46 har_46 H locs ls r_ctr_46 i46_0 i46_1 hm hP hD hS hl
            refine lv_iload hx hb dX0_seek_46 (lv_at hl 5 rfl) ?_
            refine lv_iload_n hx hb dX0_seek_48 rfl (lv_at hl 2 rfl) ?_
            refine lv_icmp_ge (tgt := 102) hx hb dX0_seek_49 (by decide) (fun c5 => ?_) (fun c5 => ?_)
            · have dc5 : n.toInt ≤ y46_5.toInt := leC rfl rfl c5
              exact W.vret hx hb hr (fun t ht hW => ⟨⟨(uS [ctr_46, cbe_46, (fun _ => har_46)] 0 (fun _ => 0)), rfl, r_ctr_46, by rw [ht]; exact hP, hD⟩, hS.F ht⟩) hS.2.2 dX0_seek_102
            · have dc5 : y46_5.toInt < n.toInt := nleC rfl rfl c5
              refine lv_iload_n hx hb dX0_seek_52 rfl (lv_at hl 3 rfl) ?_
              refine lv_iload hx hb dX0_seek_53 (lv_at hl 5 rfl) ?_
              refine lv_ishr hx hb dX0_seek_55 ?_
              refine lv_iconst (v := 1) hx hb dX0_seek_56 (by decide) ?_
              refine lv_iand hx hb dX0_seek_57 ?_
              have f6 := andR (a := (us >>> (y46_5 &&& 31))) (m := 1) (M := 1) rfl (by decide)
              refine lv_if_ne (tgt := 96) hx hb dX0_seek_58 (by decide) (fun c7 => ?_) (fun c7 => ?_)
              · have dc7 : ((us >>> (y46_5 &&& 31)) &&& 1).toInt ≠ 0 := neC rfl (show (0 : Int32).toInt = 0 from rfl) c7
                obtain ⟨z8, ez8⟩ : ∃ y : Int32, y = y46_5 + 1 := ⟨_, rfl⟩
                have iz8 : z8.toInt = y46_5.toInt + 1 := by rw [ez8]; exact addC rfl rfl (by omega) (by omega)
                refine lv_iinc (v := z8) (lv' := [(5, .int z8), (0, .ref (a 28)), (1, .int fi), (2, .int n), (3, .int us), (4, .int ha)]) hx hb dX0_seek_96 hl (k := 5) rfl (by rw [ez8]; rfl) (by decide) rfl (fun ls hl => ?_)
                refine lv_goto (tgt := 46) hx hb dX0_seek_99 (by decide) ?_
                exact ih46 z8 ctr_46 cbe_46 har_46 _ _ _ r_ctr_46 (by omega) (by omega) (by omega) hP hD hS (lv_sub hl [1, 2, 3, 4, 5, 0] rfl)
              · have dc7 : ((us >>> (y46_5 &&& 31)) &&& 1).toInt = 0 := eqC rfl (show (0 : Int32).toInt = 0 from rfl) c7
                refine lv_aload_n hx hb dX0_seek_61 rfl (lv_at hl 0 rfl) ?_
                refine va_get (D := (dC, dI)) (ci := 0) (v := .ref (a 31)) (C := RX0) (T := TX0) (N := 6) hx hb hts inX0 hown hK hP 0 rfl rfl 3 (by decide) lf18 (fun _ h9 => h9) rfl dX0_seek_62 ?_
                refine lv_iload_n hx hb dX0_seek_65 rfl (lv_at hl 1 rfl) ?_
                refine lv_aload_n hx hb dX0_seek_66 rfl (lv_at hl 0 rfl) ?_
                refine va_get (D := (dC, dI)) (ci := 0) (v := .ref (a 30)) (C := RX0) (T := TX0) (N := 6) hx hb hts inX0 hown hK hP 0 rfl rfl 2 (by decide) lf15 (fun _ h9 => h9) rfl dX0_seek_67 ?_
                refine lv_iload hx hb dX0_seek_70 (lv_at hl 5 rfl) ?_
                have b9 : vp_in y46_5 8 := inC rfl (by omega) (by omega)
                refine va_iald hx hb hK hP 2 0 rfl rfl b9 dX0_seek_72 ?_
                have g10 : 0 ≤ (thi y46_5.toNatClampNeg).toInt ∧ (thi y46_5.toNatClampNeg).toInt ≤ 23 := rg_at r_thi b9
                refine lv_topi (fun x11 ex11 => ?_)
                have ix11 : x11.toInt = (thi y46_5.toNatClampNeg).toInt := by rw [ex11]
                have b12 : vp_in fi 6 := inC rfl (by omega) (by omega)
                have g13 : rg 6 (0) (23) (upd ctr_46 fi.toNatClampNeg x11) := rg_upd r_ctr_46 rfl (by omega) (by omega)
                refine va_iast hx hb hK hP hD hS 3 0 rfl rfl b12 dX0_seek_73 (fun H locs hP hD hS => ?_)
                obtain ⟨ctr_u14, ectr_u14⟩ : ∃ f : Nat → Int32, f = upd ctr_46 fi.toNatClampNeg x11 := ⟨_, rfl⟩
                have rctr_u14 : rg 6 (0) (23) ctr_u14 := by rw [ectr_u14]; exact g13
                have hP : va_P (dC, dI) vwCl (wCod cI cZ cQ a ali thi ctr_u14 cbe_46 har_46 mar tol) H := by rw [ectr_u14]; exact hP
                have hD : va_D A (wCod cI cZ cQ a ali thi ctr_u14 cbe_46 har_46 mar tol) := by rw [ectr_u14]; exact hD
                refine lv_aload_n hx hb dX0_seek_74 rfl (lv_at hl 0 rfl) ?_
                refine lv_iload_n hx hb dX0_seek_75 rfl (lv_at hl 1 rfl) ?_
                refine lv_iconst (v := 1) hx hb dX0_seek_76 (by decide) ?_
                refine lv_iadd hx hb dX0_seek_77 ?_
                have f15 : (fi + 1).toInt = (fi.toInt) + (1) := addC rfl (show (1 : Int32).toInt = 1 from rfl) (by omega) (by omega)
                refine lv_iload_n hx hb dX0_seek_78 rfl (lv_at hl 2 rfl) ?_
                refine lv_iload_n hx hb dX0_seek_79 rfl (lv_at hl 3 rfl) ?_
                refine lv_iconst (v := 1) hx hb dX0_seek_80 (by decide) ?_
                refine lv_iload hx hb dX0_seek_81 (lv_at hl 5 rfl) ?_
                refine lv_ishl hx hb dX0_seek_83 ?_
                have f16 : 1 ≤ ((1 : Int32) <<< (y46_5 &&& 31)).toInt ∧ ((1 : Int32) <<< (y46_5 &&& 31)).toInt ≤ 32 := shl1 rfl (by omega) 5 (by omega) (by decide)
                refine lv_ior hx hb dX0_seek_84 ?_
                refine lv_iload hx hb dX0_seek_85 (lv_at hl 4 rfl) ?_
                refine lv_aload_n hx hb dX0_seek_87 rfl (lv_at hl 0 rfl) ?_
                refine lv_iload_n hx hb dX0_seek_88 rfl (lv_at hl 1 rfl) ?_
                refine rdV (As := [.int fi]) (rest := [.int ha, .int (us ||| ((1 : Int32) <<< (y46_5 &&& 31))), .int n, .int (fi + 1), .ref (a 28)]) ⟨hx, hb, hml, hown, hts⟩ (k_X0_harmOf l dC dI cI cZ cQ a ali thi ctr_u14 cbe_46 har_46 mar tol fi r_thi rctr_u14 r_mar r_tol (by omega) (by omega)) (cwV 1 hts gX0_seek_X0_harmOf rfl rfl rfl (by decide +kernel) ⟨Nat.le_of_ble_eq_true rfl, Nat.le_of_ble_eq_true rfl⟩) hP hK hN [0, 1, 2, 3, 4, 5, 6, 7] rfl 0 0 rfl rfl rfl hl.1 rfl (Nat.le_of_ble_eq_true rfl) dX0_seek_89 ⟨Nat.le_of_ble_eq_true rfl, Nat.le_of_ble_eq_true rfl⟩ (fun r17 h18 => ?_)
                have h18 : True := h18
                refine lv_iadd hx hb dX0_seek_92 ?_
                refine wvV (As := [.int (fi + 1), .int n, .int (us ||| ((1 : Int32) <<< (y46_5 &&& 31))), .int (ha + r17)]) (rest := []) (wr := []) (w2 := (fun u : US => (wCod cI cZ cQ a ali thi (u.1 0) (u.1 1) (u.1 2 0) mar tol))) ⟨hx, hb, hml, hown, hts⟩ (k_X0_seek_0 l dC dI cI cZ cQ a ali thi ctr_u14 cbe_46 har_46 mar tol _ (fi + 1) n (us ||| ((1 : Int32) <<< (y46_5 &&& 31))) (ha + r17) r_thi rctr_u14 r_mar r_tol (by omega) (by omega) (by omega) (by omega)) (cwV 4 hts gX0_seek_X0_seek rfl rfl rfl (by decide +kernel) ⟨Nat.le_of_ble_eq_true rfl, Nat.le_of_ble_eq_true rfl⟩) hP hD hS hA hK hN [0, 1, 2, 3, 4, 5, 6, 7] [] [0, 1, 2, 3, 4, 5, 6, 7] rfl rfl (by decide) (by decide) (by decide) (fun _ => rfl) (by decide) 0 0 rfl rfl rfl hl.1 rfl (Nat.le_of_ble_eq_true rfl) dX0_seek_93 ⟨Nat.le_of_ble_eq_true rfl, Nat.le_of_ble_eq_true rfl⟩ (fun u21 H locs h20 hP hD hS => ?_)
                obtain ⟨ctr_c22, ectr_c22⟩ : ∃ f : Nat → Int32, f = (u21.1 0) := ⟨_, rfl⟩
                obtain ⟨cbe_c23, ecbe_c23⟩ : ∃ f : Nat → Int32, f = (u21.1 1) := ⟨_, rfl⟩
                obtain ⟨har_c24, ehar_c24⟩ : ∃ f : Int32, f = (u21.1 2 0) := ⟨_, rfl⟩
                have hP : va_P (dC, dI) vwCl (wCod cI cZ cQ a ali thi ctr_c22 cbe_c23 har_c24 mar tol) H := by rw [ectr_c22, ecbe_c23, ehar_c24]; exact hP
                have hD : va_D A (wCod cI cZ cQ a ali thi ctr_c22 cbe_c23 har_c24 mar tol) := by rw [ectr_c22, ecbe_c23, ehar_c24]; exact hD
                have h20 : (rg 6 (0) (23) ctr_c22) := by (try rw [ectr_c22]); (try rw [ecbe_c23]); (try rw [ehar_c24]); exact h20
                have h20_0 := h20
                obtain ⟨z25, ez25⟩ : ∃ y : Int32, y = y46_5 + 1 := ⟨_, rfl⟩
                have iz25 : z25.toInt = y46_5.toInt + 1 := by rw [ez25]; exact addC rfl rfl (by omega) (by omega)
                refine lv_iinc (v := z25) (lv' := [(5, .int z25), (0, .ref (a 28)), (1, .int fi), (2, .int n), (3, .int us), (4, .int ha)]) hx hb dX0_seek_96 hl (k := 5) rfl (by rw [ez25]; rfl) (by decide) rfl (fun ls hl => ?_)
                refine lv_goto (tgt := 46) hx hb dX0_seek_99 (by decide) ?_
                exact ih46 z25 ctr_c22 cbe_c23 har_c24 _ _ _ h20_0 (by omega) (by omega) (by omega) hP hD hS (lv_sub hl [1, 2, 3, 4, 5, 0] rfl)
        have kc26 : (0 : Int32).toInt = 0 := rfl
        exact L46 _ 0 ctr cbe har _ _ _ r_ctr (by omega) (by omega) (Nat.lt_succ_self _) hP hD hS (lv_sub hl [1, 2, 3, 4, 5, 0] rfl)
      · have dc4 : 6 ≤ fi.toInt := nltC rfl (show (6 : Int32).toInt = 6 from rfl) c4
        exfalso
        omega
  · have dc1 : har.toInt ≤ ha.toInt := nltC rfl rfl c1
    exact W.vret hx hb hr (fun t ht hW => ⟨⟨(uS [ctr, cbe, (fun _ => har)] 0 (fun _ => 0)), rfl, r_ctr, by rw [ht]; exact hP, hD⟩, hS.F ht⟩) hS.2.2 dX0_seek_9
set_option maxHeartbeats 4000000 in
set_option maxRecDepth 100000 in
theorem k_X0_seek_2 (l : Launch) (dC : Nat → ClassId) (dI : Nat → Nat → Nat) (cI cZ cQ : ClassId) (a : Nat → Nat) (ali : Nat → Int32) (thi : Nat → Int32) (ctr : Nat → Int32) (cbe : Nat → Int32) (har : Int32) (mar : Nat → Int32) (tol : Nat → Int32) (sz : Nat) (fi : Int32) (n : Int32) (us : Int32) (ha : Int32) (r_thi : rg 8 (0) (23) thi) (r_ctr : rg 6 (0) (23) ctr) (r_mar : rg 24 (0) (255) mar) (r_tol : rg 8 (0) (23) tol) (q0 : 4 ≤ fi.toInt) (q1 : fi.toInt ≤ 6) (q2 : 2 ≤ n.toInt) (q3 : n.toInt ≤ 6) : KV l yX0_seek wsX0_seek { frames := 5, cells := 0, slots := 0, locals := 115 } (dC, dI) (TY cI cZ cQ) (wCod cI cZ cQ a ali thi ctr cbe har mar tol) [.ref (a 28), .int fi, .int n, .int us, .int ha] sz 0 0 (fun (u : US) => (rg 6 (0) (23) (u.1 0))) (fun u : US => (wCod cI cZ cQ a ali thi (u.1 0) (u.1 1) (u.1 2 0) mar tol)) := by
  refine Met.ofW (cc := cX0_seek) (maxL := 6) (ret := none) (by decide) rfl ?_
  intro p e s m args below meth c s₁ B hml hv
  obtain ⟨rfl, hsz, hP, hK, hD0, hN⟩ := hv
  have hx := B.exec
  have hb := B.bytes
  have hr := B.returns
  have hts := atoms_spec (ws := wsX0_seek) B.pre
  have hown : s.vm.findClass RX0 = some m.cls := findClass_of_methodNamed B.named
  have hlocks := B.notSynchronized
  have lf34 := hts (.fieldLink RX0 34 "PalaceOfRooms$Codes" "bestHarm" "I") (List.mem_cons_of_mem _ (List.mem_append_left _ (List.mem_append_left _ (List.mem_append_left _ (List.mem_of_getElem? (i := 0) rfl)))))
  have inX0 : ∀ w ∈ wsX00, w ∈ wsX0_seek := fun w h => List.mem_cons_of_mem _ (List.mem_append_left _ (List.mem_append_right _ h))
  have lf18 := hts (.fieldLink RX0 18 "PalaceOfRooms$Codes" "trial" "[I") (List.mem_cons_of_mem _ (List.mem_append_left _ (List.mem_append_left _ (List.mem_append_left _ (List.mem_of_getElem? (i := 1) rfl)))))
  have lf21 := hts (.fieldLink RX0 21 "PalaceOfRooms$Codes" "best" "[I") (List.mem_cons_of_mem _ (List.mem_append_left _ (List.mem_append_left _ (List.mem_append_left _ (List.mem_of_getElem? (i := 2) rfl)))))
  have lf15 := hts (.fieldLink RX0 15 "PalaceOfRooms$Codes" "things" "[I") (List.mem_cons_of_mem _ (List.mem_append_left _ (List.mem_append_left _ (List.mem_append_left _ (List.mem_of_getElem? (i := 7) rfl)))))
  subst hsz
  have hD := hD0.self (sz := s.heap.size)
  generalize hAe : va_A (wCod cI cZ cQ a ali thi ctr cbe har mar tol) s.heap.size = A at hD ⊢
  have hA : ∀ q : Nat, s.heap.size ≤ q → A q := fun q h => by rw [← hAe]; exact Or.inr h
  have hS : va_S A s.heap s.heap [] := va_S.rf
  have hl := lv_entry ([.ref (a 28), .int fi, .int n, .int us, .int ha]) (n := 6) (Nat.le_of_ble_eq_true rfl)
  rw [lg_entry_eq]
  generalize (lg_sl ([.ref (a 28), .int fi, .int n, .int us, .int ha]) ++ List.replicate (6 - (lg_sl ([.ref (a 28), .int fi, .int n, .int us, .int ha])).length) Slot.unset).toArray = ls at hl ⊢
  have hl : lv_has ls 6 [(0, .ref (a 28)), (1, .int fi), (2, .int n), (3, .int us), (4, .int ha)] := hl
  refine lv_iload hx hb dX0_seek_0 (lv_at hl 4 rfl) ?_
  refine lv_aload_n hx hb dX0_seek_2 rfl (lv_at hl 0 rfl) ?_
  refine va_get (D := (dC, dI)) (ci := 0) (v := .int har) (C := RX0) (T := TX0) (N := 6) hx hb hts inX0 hown hK hP 0 rfl rfl 5 (by decide) lf34 (fun _ h9 => h9) rfl dX0_seek_3 ?_
  refine lv_icmp_lt (tgt := 10) hx hb dX0_seek_6 (by decide) (fun c1 => ?_) (fun c1 => ?_)
  · have dc1 : ha.toInt < har.toInt := ltC rfl rfl c1
    refine lv_iload_n hx hb dX0_seek_10 rfl (lv_at hl 1 rfl) ?_
    refine lv_iload_n hx hb dX0_seek_11 rfl (lv_at hl 2 rfl) ?_
    refine lv_icmp_ge (tgt := 21) hx hb dX0_seek_12 (by decide) (fun c2 => ?_) (fun c2 => ?_)
    · have dc2 : n.toInt ≤ fi.toInt := leC rfl rfl c2
      refine lv_aload_n hx hb dX0_seek_21 rfl (lv_at hl 0 rfl) ?_
      refine lv_iload hx hb dX0_seek_22 (lv_at hl 4 rfl) ?_
      refine va_put (D := (dC, dI)) (ci := 0) (v := .int ha) (ty := .int) (C := RX0) (T := TX0) (N := 6) hx hb hts inX0 tyX0 tyX0_ok nmX0 hown hK hP hD hS 0 rfl rfl 5 (by decide) lf34 (fun _ h9 => h9) rfl (by decide +kernel) rfl rfl (Nat.le_of_ble_eq_true rfl) dX0_seek_24 (fun H locs hP hD hS => ?_)
      have hP : va_P (dC, dI) vwCl (wCod cI cZ cQ a ali thi ctr cbe ha mar tol) H := hP
      have hD : va_D A (wCod cI cZ cQ a ali thi ctr cbe ha mar tol) := hD
      refine lv_aload_n hx hb dX0_seek_27 rfl (lv_at hl 0 rfl) ?_
      refine va_get (D := (dC, dI)) (ci := 0) (v := .ref (a 31)) (C := RX0) (T := TX0) (N := 6) hx hb hts inX0 hown hK hP 0 rfl rfl 3 (by decide) lf18 (fun _ h9 => h9) rfl dX0_seek_28 ?_
      refine lv_iconst (v := 0) hx hb dX0_seek_31 (by decide) ?_
      refine lv_aload_n hx hb dX0_seek_32 rfl (lv_at hl 0 rfl) ?_
      refine va_get (D := (dC, dI)) (ci := 0) (v := .ref (a 32)) (C := RX0) (T := TX0) (N := 6) hx hb hts inX0 hown hK hP 0 rfl rfl 4 (by decide) lf21 (fun _ h9 => h9) rfl dX0_seek_33 ?_
      refine lv_iconst (v := 0) hx hb dX0_seek_36 (by decide) ?_
      refine lv_bipush (v := 6) hx hb dX0_seek_37 (by decide) ?_
      refine va_copyi (ty := .int) (n := 6) hx hb (by rw [hml]; exact hl.1.symm) hown (hts (.methodLink RX0 28 arraycopyName) (List.mem_cons_of_mem _ (List.mem_append_left _ (List.mem_append_left _ (List.mem_append_left _ (List.mem_of_getElem? (i := 3) rfl)))))) (hts (.native arraycopyName) (List.mem_cons_of_mem _ (List.mem_append_left _ (List.mem_append_left _ (List.mem_append_left _ (List.mem_of_getElem? (i := 4) rfl)))))) (hts (.static arraycopyName) (List.mem_cons_of_mem _ (List.mem_append_left _ (List.mem_append_left _ (List.mem_append_left _ (List.mem_of_getElem? (i := 5) rfl)))))) (hts (.initialized "java/lang/System") (List.mem_cons_of_mem _ (List.mem_append_left _ (List.mem_append_left _ (List.mem_append_left _ (List.mem_of_getElem? (i := 6) rfl)))))) hK hP hD hS 3 4 0 0 rfl rfl rfl rfl rfl (by decide) (by decide) (by decide) (by decide) (by decide) (fun _ _ => rfl) (Nat.le_of_ble_eq_true rfl) (Nat.le_of_ble_eq_true rfl) dX0_seek_39 (fun H locs hP hD hS => ?_)
      obtain ⟨cbe_u3, ecbe_u3⟩ : ∃ f : Nat → Int32, f = va_cpy ctr cbe 0 0 6 := ⟨_, rfl⟩
      have hP : va_P (dC, dI) vwCl (wCod cI cZ cQ a ali thi ctr cbe_u3 ha mar tol) H := by rw [ecbe_u3]; exact hP
      have hD : va_D A (wCod cI cZ cQ a ali thi ctr cbe_u3 ha mar tol) := by rw [ecbe_u3]; exact hD
      exact W.vret hx hb hr (fun t ht hW => ⟨⟨(uS [ctr, cbe_u3, (fun _ => ha)] 0 (fun _ => 0)), rfl, r_ctr, by rw [ht]; exact hP, hD⟩, hS.F ht⟩) hS.2.2 dX0_seek_42
    · have dc2 : fi.toInt < n.toInt := nleC rfl rfl c2
      refine lv_iload_n hx hb dX0_seek_15 rfl (lv_at hl 1 rfl) ?_
      refine lv_bipush (v := 6) hx hb dX0_seek_16 (by decide) ?_
      refine lv_icmp_lt (tgt := 43) hx hb dX0_seek_18 (by decide) (fun c4 => ?_) (fun c4 => ?_)
      · have dc4 : fi.toInt < 6 := ltC rfl (show (6 : Int32).toInt = 6 from rfl) c4
        refine lv_iconst (v := 0) hx hb dX0_seek_43 (by decide) ?_
        refine lv_istore (lv' := [(5, .int 0), (0, .ref (a 28)), (1, .int fi), (2, .int n), (3, .int us), (4, .int ha)]) hx hb dX0_seek_44 hl (by decide) rfl (fun ls hl => ?_)
        have L46 : ∀ (nn : Nat) (y46_5 : Int32) (ctr_46 : Nat → Int32) (cbe_46 : Nat → Int32) (har_46 : Int32) (H : Heap) (locs : List Loc) (ls : Array Slot), (rg 6 (0) (23) ctr_46) → (0 ≤ (y46_5.toInt)) → ((y46_5.toInt) ≤ 6) → (6 - (y46_5.toInt)).toNat < nn → va_P (dC, dI) vwCl (wCod cI cZ cQ a ali thi ctr_46 cbe_46 har_46 mar tol) H → va_D A (wCod cI cZ cQ a ali thi ctr_46 cbe_46 har_46 mar tol) → va_S A s.heap H locs → lv_has ls 6 [(0, .ref (a 28)), (1, .int fi), (2, .int n), (3, .int us), (4, .int ha), (5, .int y46_5)] → W p l e (headSpec wsX0_seek { frames := 5, cells := 0, slots := 0, locals := 115 }).room s m ([.ref (a 28), .int fi, .int n, .int us, .int ha] : List Value).toArray below meth c H locs 0 0 (MQ below (va_Qv (fun (u : US) => (rg 6 (0) (23) (u.1 0))) (Bw (dC, dI) A (fun u : US => (wCod cI cZ cQ a ali thi (u.1 0) (u.1 1) (u.1 2 0) mar tol))) A) ([.ref (a 28), .int fi, .int n, .int us, .int ha] : List Value).toArray s 0 0 A) (F0 m 46 ls []) := by
          intro nn
          induction nn with
          | zero =>
            intro y46_5 ctr_46 cbe_46 har_46 H locs ls r_ctr_46 i46_0 i46_1 hm
            exact absurd hm (Nat.not_lt_zero _)
          | succ nn ih46 =>
            intro y46_5 ctr_46 cbe_46 har_46 H locs ls r_ctr_46 i46_0 i46_1 hm hP hD hS hl
            refine lv_iload hx hb dX0_seek_46 (lv_at hl 5 rfl) ?_
            refine lv_iload_n hx hb dX0_seek_48 rfl (lv_at hl 2 rfl) ?_
            refine lv_icmp_ge (tgt := 102) hx hb dX0_seek_49 (by decide) (fun c5 => ?_) (fun c5 => ?_)
            · have dc5 : n.toInt ≤ y46_5.toInt := leC rfl rfl c5
              exact W.vret hx hb hr (fun t ht hW => ⟨⟨(uS [ctr_46, cbe_46, (fun _ => har_46)] 0 (fun _ => 0)), rfl, r_ctr_46, by rw [ht]; exact hP, hD⟩, hS.F ht⟩) hS.2.2 dX0_seek_102
            · have dc5 : y46_5.toInt < n.toInt := nleC rfl rfl c5
              refine lv_iload_n hx hb dX0_seek_52 rfl (lv_at hl 3 rfl) ?_
              refine lv_iload hx hb dX0_seek_53 (lv_at hl 5 rfl) ?_
              refine lv_ishr hx hb dX0_seek_55 ?_
              refine lv_iconst (v := 1) hx hb dX0_seek_56 (by decide) ?_
              refine lv_iand hx hb dX0_seek_57 ?_
              have f6 := andR (a := (us >>> (y46_5 &&& 31))) (m := 1) (M := 1) rfl (by decide)
              refine lv_if_ne (tgt := 96) hx hb dX0_seek_58 (by decide) (fun c7 => ?_) (fun c7 => ?_)
              · have dc7 : ((us >>> (y46_5 &&& 31)) &&& 1).toInt ≠ 0 := neC rfl (show (0 : Int32).toInt = 0 from rfl) c7
                obtain ⟨z8, ez8⟩ : ∃ y : Int32, y = y46_5 + 1 := ⟨_, rfl⟩
                have iz8 : z8.toInt = y46_5.toInt + 1 := by rw [ez8]; exact addC rfl rfl (by omega) (by omega)
                refine lv_iinc (v := z8) (lv' := [(5, .int z8), (0, .ref (a 28)), (1, .int fi), (2, .int n), (3, .int us), (4, .int ha)]) hx hb dX0_seek_96 hl (k := 5) rfl (by rw [ez8]; rfl) (by decide) rfl (fun ls hl => ?_)
                refine lv_goto (tgt := 46) hx hb dX0_seek_99 (by decide) ?_
                exact ih46 z8 ctr_46 cbe_46 har_46 _ _ _ r_ctr_46 (by omega) (by omega) (by omega) hP hD hS (lv_sub hl [1, 2, 3, 4, 5, 0] rfl)
              · have dc7 : ((us >>> (y46_5 &&& 31)) &&& 1).toInt = 0 := eqC rfl (show (0 : Int32).toInt = 0 from rfl) c7
                refine lv_aload_n hx hb dX0_seek_61 rfl (lv_at hl 0 rfl) ?_
                refine va_get (D := (dC, dI)) (ci := 0) (v := .ref (a 31)) (C := RX0) (T := TX0) (N := 6) hx hb hts inX0 hown hK hP 0 rfl rfl 3 (by decide) lf18 (fun _ h9 => h9) rfl dX0_seek_62 ?_
                refine lv_iload_n hx hb dX0_seek_65 rfl (lv_at hl 1 rfl) ?_
                refine lv_aload_n hx hb dX0_seek_66 rfl (lv_at hl 0 rfl) ?_
                refine va_get (D := (dC, dI)) (ci := 0) (v := .ref (a 30)) (C := RX0) (T := TX0) (N := 6) hx hb hts inX0 hown hK hP 0 rfl rfl 2 (by decide) lf15 (fun _ h9 => h9) rfl dX0_seek_67 ?_
                refine lv_iload hx hb dX0_seek_70 (lv_at hl 5 rfl) ?_
                have b9 : vp_in y46_5 8 := inC rfl (by omega) (by omega)
                refine va_iald hx hb hK hP 2 0 rfl rfl b9 dX0_seek_72 ?_
                have g10 : 0 ≤ (thi y46_5.toNatClampNeg).toInt ∧ (thi y46_5.toNatClampNeg).toInt ≤ 23 := rg_at r_thi b9
                refine lv_topi (fun x11 ex11 => ?_)
                have ix11 : x11.toInt = (thi y46_5.toNatClampNeg).toInt := by rw [ex11]
                have b12 : vp_in fi 6 := inC rfl (by omega) (by omega)
                have g13 : rg 6 (0) (23) (upd ctr_46 fi.toNatClampNeg x11) := rg_upd r_ctr_46 rfl (by omega) (by omega)
                refine va_iast hx hb hK hP hD hS 3 0 rfl rfl b12 dX0_seek_73 (fun H locs hP hD hS => ?_)
                obtain ⟨ctr_u14, ectr_u14⟩ : ∃ f : Nat → Int32, f = upd ctr_46 fi.toNatClampNeg x11 := ⟨_, rfl⟩
                have rctr_u14 : rg 6 (0) (23) ctr_u14 := by rw [ectr_u14]; exact g13
                have hP : va_P (dC, dI) vwCl (wCod cI cZ cQ a ali thi ctr_u14 cbe_46 har_46 mar tol) H := by rw [ectr_u14]; exact hP
                have hD : va_D A (wCod cI cZ cQ a ali thi ctr_u14 cbe_46 har_46 mar tol) := by rw [ectr_u14]; exact hD
                refine lv_aload_n hx hb dX0_seek_74 rfl (lv_at hl 0 rfl) ?_
                refine lv_iload_n hx hb dX0_seek_75 rfl (lv_at hl 1 rfl) ?_
                refine lv_iconst (v := 1) hx hb dX0_seek_76 (by decide) ?_
                refine lv_iadd hx hb dX0_seek_77 ?_
                have f15 : (fi + 1).toInt = (fi.toInt) + (1) := addC rfl (show (1 : Int32).toInt = 1 from rfl) (by omega) (by omega)
                refine lv_iload_n hx hb dX0_seek_78 rfl (lv_at hl 2 rfl) ?_
                refine lv_iload_n hx hb dX0_seek_79 rfl (lv_at hl 3 rfl) ?_
                refine lv_iconst (v := 1) hx hb dX0_seek_80 (by decide) ?_
                refine lv_iload hx hb dX0_seek_81 (lv_at hl 5 rfl) ?_
                refine lv_ishl hx hb dX0_seek_83 ?_
                have f16 : 1 ≤ ((1 : Int32) <<< (y46_5 &&& 31)).toInt ∧ ((1 : Int32) <<< (y46_5 &&& 31)).toInt ≤ 32 := shl1 rfl (by omega) 5 (by omega) (by decide)
                refine lv_ior hx hb dX0_seek_84 ?_
                refine lv_iload hx hb dX0_seek_85 (lv_at hl 4 rfl) ?_
                refine lv_aload_n hx hb dX0_seek_87 rfl (lv_at hl 0 rfl) ?_
                refine lv_iload_n hx hb dX0_seek_88 rfl (lv_at hl 1 rfl) ?_
                refine rdV (As := [.int fi]) (rest := [.int ha, .int (us ||| ((1 : Int32) <<< (y46_5 &&& 31))), .int n, .int (fi + 1), .ref (a 28)]) ⟨hx, hb, hml, hown, hts⟩ (k_X0_harmOf l dC dI cI cZ cQ a ali thi ctr_u14 cbe_46 har_46 mar tol fi r_thi rctr_u14 r_mar r_tol (by omega) (by omega)) (cwV 1 hts gX0_seek_X0_harmOf rfl rfl rfl (by decide +kernel) ⟨Nat.le_of_ble_eq_true rfl, Nat.le_of_ble_eq_true rfl⟩) hP hK hN [0, 1, 2, 3, 4, 5, 6, 7] rfl 0 0 rfl rfl rfl hl.1 rfl (Nat.le_of_ble_eq_true rfl) dX0_seek_89 ⟨Nat.le_of_ble_eq_true rfl, Nat.le_of_ble_eq_true rfl⟩ (fun r17 h18 => ?_)
                have h18 : True := h18
                refine lv_iadd hx hb dX0_seek_92 ?_
                refine wvV (As := [.int (fi + 1), .int n, .int (us ||| ((1 : Int32) <<< (y46_5 &&& 31))), .int (ha + r17)]) (rest := []) (wr := []) (w2 := (fun u : US => (wCod cI cZ cQ a ali thi (u.1 0) (u.1 1) (u.1 2 0) mar tol))) ⟨hx, hb, hml, hown, hts⟩ (k_X0_seek_1 l dC dI cI cZ cQ a ali thi ctr_u14 cbe_46 har_46 mar tol _ (fi + 1) n (us ||| ((1 : Int32) <<< (y46_5 &&& 31))) (ha + r17) r_thi rctr_u14 r_mar r_tol (by omega) (by omega) (by omega) (by omega)) (cwV 4 hts gX0_seek_X0_seek rfl rfl rfl (by decide +kernel) ⟨Nat.le_of_ble_eq_true rfl, Nat.le_of_ble_eq_true rfl⟩) hP hD hS hA hK hN [0, 1, 2, 3, 4, 5, 6, 7] [] [0, 1, 2, 3, 4, 5, 6, 7] rfl rfl (by decide) (by decide) (by decide) (fun _ => rfl) (by decide) 0 0 rfl rfl rfl hl.1 rfl (Nat.le_of_ble_eq_true rfl) dX0_seek_93 ⟨Nat.le_of_ble_eq_true rfl, Nat.le_of_ble_eq_true rfl⟩ (fun u21 H locs h20 hP hD hS => ?_)
                obtain ⟨ctr_c22, ectr_c22⟩ : ∃ f : Nat → Int32, f = (u21.1 0) := ⟨_, rfl⟩
                obtain ⟨cbe_c23, ecbe_c23⟩ : ∃ f : Nat → Int32, f = (u21.1 1) := ⟨_, rfl⟩
                obtain ⟨har_c24, ehar_c24⟩ : ∃ f : Int32, f = (u21.1 2 0) := ⟨_, rfl⟩
                have hP : va_P (dC, dI) vwCl (wCod cI cZ cQ a ali thi ctr_c22 cbe_c23 har_c24 mar tol) H := by rw [ectr_c22, ecbe_c23, ehar_c24]; exact hP
                have hD : va_D A (wCod cI cZ cQ a ali thi ctr_c22 cbe_c23 har_c24 mar tol) := by rw [ectr_c22, ecbe_c23, ehar_c24]; exact hD
                have h20 : (rg 6 (0) (23) ctr_c22) := by (try rw [ectr_c22]); (try rw [ecbe_c23]); (try rw [ehar_c24]); exact h20
                have h20_0 := h20
                obtain ⟨z25, ez25⟩ : ∃ y : Int32, y = y46_5 + 1 := ⟨_, rfl⟩
                have iz25 : z25.toInt = y46_5.toInt + 1 := by rw [ez25]; exact addC rfl rfl (by omega) (by omega)
                refine lv_iinc (v := z25) (lv' := [(5, .int z25), (0, .ref (a 28)), (1, .int fi), (2, .int n), (3, .int us), (4, .int ha)]) hx hb dX0_seek_96 hl (k := 5) rfl (by rw [ez25]; rfl) (by decide) rfl (fun ls hl => ?_)
                refine lv_goto (tgt := 46) hx hb dX0_seek_99 (by decide) ?_
                exact ih46 z25 ctr_c22 cbe_c23 har_c24 _ _ _ h20_0 (by omega) (by omega) (by omega) hP hD hS (lv_sub hl [1, 2, 3, 4, 5, 0] rfl)
        have kc26 : (0 : Int32).toInt = 0 := rfl
        exact L46 _ 0 ctr cbe har _ _ _ r_ctr (by omega) (by omega) (Nat.lt_succ_self _) hP hD hS (lv_sub hl [1, 2, 3, 4, 5, 0] rfl)
      · have dc4 : 6 ≤ fi.toInt := nltC rfl (show (6 : Int32).toInt = 6 from rfl) c4
        exfalso
        omega
  · have dc1 : har.toInt ≤ ha.toInt := nltC rfl rfl c1
    exact W.vret hx hb hr (fun t ht hW => ⟨⟨(uS [ctr, cbe, (fun _ => har)] 0 (fun _ => 0)), rfl, r_ctr, by rw [ht]; exact hP, hD⟩, hS.F ht⟩) hS.2.2 dX0_seek_9
set_option maxHeartbeats 4000000 in
set_option maxRecDepth 100000 in
theorem k_X0_seek_3 (l : Launch) (dC : Nat → ClassId) (dI : Nat → Nat → Nat) (cI cZ cQ : ClassId) (a : Nat → Nat) (ali : Nat → Int32) (thi : Nat → Int32) (ctr : Nat → Int32) (cbe : Nat → Int32) (har : Int32) (mar : Nat → Int32) (tol : Nat → Int32) (sz : Nat) (fi : Int32) (n : Int32) (us : Int32) (ha : Int32) (r_thi : rg 8 (0) (23) thi) (r_ctr : rg 6 (0) (23) ctr) (r_mar : rg 24 (0) (255) mar) (r_tol : rg 8 (0) (23) tol) (q0 : 3 ≤ fi.toInt) (q1 : fi.toInt ≤ 6) (q2 : 2 ≤ n.toInt) (q3 : n.toInt ≤ 6) : KV l yX0_seek wsX0_seek { frames := 6, cells := 0, slots := 0, locals := 140 } (dC, dI) (TY cI cZ cQ) (wCod cI cZ cQ a ali thi ctr cbe har mar tol) [.ref (a 28), .int fi, .int n, .int us, .int ha] sz 0 0 (fun (u : US) => (rg 6 (0) (23) (u.1 0))) (fun u : US => (wCod cI cZ cQ a ali thi (u.1 0) (u.1 1) (u.1 2 0) mar tol)) := by
  refine Met.ofW (cc := cX0_seek) (maxL := 6) (ret := none) (by decide) rfl ?_
  intro p e s m args below meth c s₁ B hml hv
  obtain ⟨rfl, hsz, hP, hK, hD0, hN⟩ := hv
  have hx := B.exec
  have hb := B.bytes
  have hr := B.returns
  have hts := atoms_spec (ws := wsX0_seek) B.pre
  have hown : s.vm.findClass RX0 = some m.cls := findClass_of_methodNamed B.named
  have hlocks := B.notSynchronized
  have lf34 := hts (.fieldLink RX0 34 "PalaceOfRooms$Codes" "bestHarm" "I") (List.mem_cons_of_mem _ (List.mem_append_left _ (List.mem_append_left _ (List.mem_append_left _ (List.mem_of_getElem? (i := 0) rfl)))))
  have inX0 : ∀ w ∈ wsX00, w ∈ wsX0_seek := fun w h => List.mem_cons_of_mem _ (List.mem_append_left _ (List.mem_append_right _ h))
  have lf18 := hts (.fieldLink RX0 18 "PalaceOfRooms$Codes" "trial" "[I") (List.mem_cons_of_mem _ (List.mem_append_left _ (List.mem_append_left _ (List.mem_append_left _ (List.mem_of_getElem? (i := 1) rfl)))))
  have lf21 := hts (.fieldLink RX0 21 "PalaceOfRooms$Codes" "best" "[I") (List.mem_cons_of_mem _ (List.mem_append_left _ (List.mem_append_left _ (List.mem_append_left _ (List.mem_of_getElem? (i := 2) rfl)))))
  have lf15 := hts (.fieldLink RX0 15 "PalaceOfRooms$Codes" "things" "[I") (List.mem_cons_of_mem _ (List.mem_append_left _ (List.mem_append_left _ (List.mem_append_left _ (List.mem_of_getElem? (i := 7) rfl)))))
  subst hsz
  have hD := hD0.self (sz := s.heap.size)
  generalize hAe : va_A (wCod cI cZ cQ a ali thi ctr cbe har mar tol) s.heap.size = A at hD ⊢
  have hA : ∀ q : Nat, s.heap.size ≤ q → A q := fun q h => by rw [← hAe]; exact Or.inr h
  have hS : va_S A s.heap s.heap [] := va_S.rf
  have hl := lv_entry ([.ref (a 28), .int fi, .int n, .int us, .int ha]) (n := 6) (Nat.le_of_ble_eq_true rfl)
  rw [lg_entry_eq]
  generalize (lg_sl ([.ref (a 28), .int fi, .int n, .int us, .int ha]) ++ List.replicate (6 - (lg_sl ([.ref (a 28), .int fi, .int n, .int us, .int ha])).length) Slot.unset).toArray = ls at hl ⊢
  have hl : lv_has ls 6 [(0, .ref (a 28)), (1, .int fi), (2, .int n), (3, .int us), (4, .int ha)] := hl
  refine lv_iload hx hb dX0_seek_0 (lv_at hl 4 rfl) ?_
  refine lv_aload_n hx hb dX0_seek_2 rfl (lv_at hl 0 rfl) ?_
  refine va_get (D := (dC, dI)) (ci := 0) (v := .int har) (C := RX0) (T := TX0) (N := 6) hx hb hts inX0 hown hK hP 0 rfl rfl 5 (by decide) lf34 (fun _ h9 => h9) rfl dX0_seek_3 ?_
  refine lv_icmp_lt (tgt := 10) hx hb dX0_seek_6 (by decide) (fun c1 => ?_) (fun c1 => ?_)
  · have dc1 : ha.toInt < har.toInt := ltC rfl rfl c1
    refine lv_iload_n hx hb dX0_seek_10 rfl (lv_at hl 1 rfl) ?_
    refine lv_iload_n hx hb dX0_seek_11 rfl (lv_at hl 2 rfl) ?_
    refine lv_icmp_ge (tgt := 21) hx hb dX0_seek_12 (by decide) (fun c2 => ?_) (fun c2 => ?_)
    · have dc2 : n.toInt ≤ fi.toInt := leC rfl rfl c2
      refine lv_aload_n hx hb dX0_seek_21 rfl (lv_at hl 0 rfl) ?_
      refine lv_iload hx hb dX0_seek_22 (lv_at hl 4 rfl) ?_
      refine va_put (D := (dC, dI)) (ci := 0) (v := .int ha) (ty := .int) (C := RX0) (T := TX0) (N := 6) hx hb hts inX0 tyX0 tyX0_ok nmX0 hown hK hP hD hS 0 rfl rfl 5 (by decide) lf34 (fun _ h9 => h9) rfl (by decide +kernel) rfl rfl (Nat.le_of_ble_eq_true rfl) dX0_seek_24 (fun H locs hP hD hS => ?_)
      have hP : va_P (dC, dI) vwCl (wCod cI cZ cQ a ali thi ctr cbe ha mar tol) H := hP
      have hD : va_D A (wCod cI cZ cQ a ali thi ctr cbe ha mar tol) := hD
      refine lv_aload_n hx hb dX0_seek_27 rfl (lv_at hl 0 rfl) ?_
      refine va_get (D := (dC, dI)) (ci := 0) (v := .ref (a 31)) (C := RX0) (T := TX0) (N := 6) hx hb hts inX0 hown hK hP 0 rfl rfl 3 (by decide) lf18 (fun _ h9 => h9) rfl dX0_seek_28 ?_
      refine lv_iconst (v := 0) hx hb dX0_seek_31 (by decide) ?_
      refine lv_aload_n hx hb dX0_seek_32 rfl (lv_at hl 0 rfl) ?_
      refine va_get (D := (dC, dI)) (ci := 0) (v := .ref (a 32)) (C := RX0) (T := TX0) (N := 6) hx hb hts inX0 hown hK hP 0 rfl rfl 4 (by decide) lf21 (fun _ h9 => h9) rfl dX0_seek_33 ?_
      refine lv_iconst (v := 0) hx hb dX0_seek_36 (by decide) ?_
      refine lv_bipush (v := 6) hx hb dX0_seek_37 (by decide) ?_
      refine va_copyi (ty := .int) (n := 6) hx hb (by rw [hml]; exact hl.1.symm) hown (hts (.methodLink RX0 28 arraycopyName) (List.mem_cons_of_mem _ (List.mem_append_left _ (List.mem_append_left _ (List.mem_append_left _ (List.mem_of_getElem? (i := 3) rfl)))))) (hts (.native arraycopyName) (List.mem_cons_of_mem _ (List.mem_append_left _ (List.mem_append_left _ (List.mem_append_left _ (List.mem_of_getElem? (i := 4) rfl)))))) (hts (.static arraycopyName) (List.mem_cons_of_mem _ (List.mem_append_left _ (List.mem_append_left _ (List.mem_append_left _ (List.mem_of_getElem? (i := 5) rfl)))))) (hts (.initialized "java/lang/System") (List.mem_cons_of_mem _ (List.mem_append_left _ (List.mem_append_left _ (List.mem_append_left _ (List.mem_of_getElem? (i := 6) rfl)))))) hK hP hD hS 3 4 0 0 rfl rfl rfl rfl rfl (by decide) (by decide) (by decide) (by decide) (by decide) (fun _ _ => rfl) (Nat.le_of_ble_eq_true rfl) (Nat.le_of_ble_eq_true rfl) dX0_seek_39 (fun H locs hP hD hS => ?_)
      obtain ⟨cbe_u3, ecbe_u3⟩ : ∃ f : Nat → Int32, f = va_cpy ctr cbe 0 0 6 := ⟨_, rfl⟩
      have hP : va_P (dC, dI) vwCl (wCod cI cZ cQ a ali thi ctr cbe_u3 ha mar tol) H := by rw [ecbe_u3]; exact hP
      have hD : va_D A (wCod cI cZ cQ a ali thi ctr cbe_u3 ha mar tol) := by rw [ecbe_u3]; exact hD
      exact W.vret hx hb hr (fun t ht hW => ⟨⟨(uS [ctr, cbe_u3, (fun _ => ha)] 0 (fun _ => 0)), rfl, r_ctr, by rw [ht]; exact hP, hD⟩, hS.F ht⟩) hS.2.2 dX0_seek_42
    · have dc2 : fi.toInt < n.toInt := nleC rfl rfl c2
      refine lv_iload_n hx hb dX0_seek_15 rfl (lv_at hl 1 rfl) ?_
      refine lv_bipush (v := 6) hx hb dX0_seek_16 (by decide) ?_
      refine lv_icmp_lt (tgt := 43) hx hb dX0_seek_18 (by decide) (fun c4 => ?_) (fun c4 => ?_)
      · have dc4 : fi.toInt < 6 := ltC rfl (show (6 : Int32).toInt = 6 from rfl) c4
        refine lv_iconst (v := 0) hx hb dX0_seek_43 (by decide) ?_
        refine lv_istore (lv' := [(5, .int 0), (0, .ref (a 28)), (1, .int fi), (2, .int n), (3, .int us), (4, .int ha)]) hx hb dX0_seek_44 hl (by decide) rfl (fun ls hl => ?_)
        have L46 : ∀ (nn : Nat) (y46_5 : Int32) (ctr_46 : Nat → Int32) (cbe_46 : Nat → Int32) (har_46 : Int32) (H : Heap) (locs : List Loc) (ls : Array Slot), (rg 6 (0) (23) ctr_46) → (0 ≤ (y46_5.toInt)) → ((y46_5.toInt) ≤ 6) → (6 - (y46_5.toInt)).toNat < nn → va_P (dC, dI) vwCl (wCod cI cZ cQ a ali thi ctr_46 cbe_46 har_46 mar tol) H → va_D A (wCod cI cZ cQ a ali thi ctr_46 cbe_46 har_46 mar tol) → va_S A s.heap H locs → lv_has ls 6 [(0, .ref (a 28)), (1, .int fi), (2, .int n), (3, .int us), (4, .int ha), (5, .int y46_5)] → W p l e (headSpec wsX0_seek { frames := 6, cells := 0, slots := 0, locals := 140 }).room s m ([.ref (a 28), .int fi, .int n, .int us, .int ha] : List Value).toArray below meth c H locs 0 0 (MQ below (va_Qv (fun (u : US) => (rg 6 (0) (23) (u.1 0))) (Bw (dC, dI) A (fun u : US => (wCod cI cZ cQ a ali thi (u.1 0) (u.1 1) (u.1 2 0) mar tol))) A) ([.ref (a 28), .int fi, .int n, .int us, .int ha] : List Value).toArray s 0 0 A) (F0 m 46 ls []) := by
          intro nn
          induction nn with
          | zero =>
            intro y46_5 ctr_46 cbe_46 har_46 H locs ls r_ctr_46 i46_0 i46_1 hm
            exact absurd hm (Nat.not_lt_zero _)
          | succ nn ih46 =>
            intro y46_5 ctr_46 cbe_46 har_46 H locs ls r_ctr_46 i46_0 i46_1 hm hP hD hS hl
            refine lv_iload hx hb dX0_seek_46 (lv_at hl 5 rfl) ?_
            refine lv_iload_n hx hb dX0_seek_48 rfl (lv_at hl 2 rfl) ?_
            refine lv_icmp_ge (tgt := 102) hx hb dX0_seek_49 (by decide) (fun c5 => ?_) (fun c5 => ?_)
            · have dc5 : n.toInt ≤ y46_5.toInt := leC rfl rfl c5
              exact W.vret hx hb hr (fun t ht hW => ⟨⟨(uS [ctr_46, cbe_46, (fun _ => har_46)] 0 (fun _ => 0)), rfl, r_ctr_46, by rw [ht]; exact hP, hD⟩, hS.F ht⟩) hS.2.2 dX0_seek_102
            · have dc5 : y46_5.toInt < n.toInt := nleC rfl rfl c5
              refine lv_iload_n hx hb dX0_seek_52 rfl (lv_at hl 3 rfl) ?_
              refine lv_iload hx hb dX0_seek_53 (lv_at hl 5 rfl) ?_
              refine lv_ishr hx hb dX0_seek_55 ?_
              refine lv_iconst (v := 1) hx hb dX0_seek_56 (by decide) ?_
              refine lv_iand hx hb dX0_seek_57 ?_
              have f6 := andR (a := (us >>> (y46_5 &&& 31))) (m := 1) (M := 1) rfl (by decide)
              refine lv_if_ne (tgt := 96) hx hb dX0_seek_58 (by decide) (fun c7 => ?_) (fun c7 => ?_)
              · have dc7 : ((us >>> (y46_5 &&& 31)) &&& 1).toInt ≠ 0 := neC rfl (show (0 : Int32).toInt = 0 from rfl) c7
                obtain ⟨z8, ez8⟩ : ∃ y : Int32, y = y46_5 + 1 := ⟨_, rfl⟩
                have iz8 : z8.toInt = y46_5.toInt + 1 := by rw [ez8]; exact addC rfl rfl (by omega) (by omega)
                refine lv_iinc (v := z8) (lv' := [(5, .int z8), (0, .ref (a 28)), (1, .int fi), (2, .int n), (3, .int us), (4, .int ha)]) hx hb dX0_seek_96 hl (k := 5) rfl (by rw [ez8]; rfl) (by decide) rfl (fun ls hl => ?_)
                refine lv_goto (tgt := 46) hx hb dX0_seek_99 (by decide) ?_
                exact ih46 z8 ctr_46 cbe_46 har_46 _ _ _ r_ctr_46 (by omega) (by omega) (by omega) hP hD hS (lv_sub hl [1, 2, 3, 4, 5, 0] rfl)
              · have dc7 : ((us >>> (y46_5 &&& 31)) &&& 1).toInt = 0 := eqC rfl (show (0 : Int32).toInt = 0 from rfl) c7
                refine lv_aload_n hx hb dX0_seek_61 rfl (lv_at hl 0 rfl) ?_
                refine va_get (D := (dC, dI)) (ci := 0) (v := .ref (a 31)) (C := RX0) (T := TX0) (N := 6) hx hb hts inX0 hown hK hP 0 rfl rfl 3 (by decide) lf18 (fun _ h9 => h9) rfl dX0_seek_62 ?_
                refine lv_iload_n hx hb dX0_seek_65 rfl (lv_at hl 1 rfl) ?_
                refine lv_aload_n hx hb dX0_seek_66 rfl (lv_at hl 0 rfl) ?_
                refine va_get (D := (dC, dI)) (ci := 0) (v := .ref (a 30)) (C := RX0) (T := TX0) (N := 6) hx hb hts inX0 hown hK hP 0 rfl rfl 2 (by decide) lf15 (fun _ h9 => h9) rfl dX0_seek_67 ?_
                refine lv_iload hx hb dX0_seek_70 (lv_at hl 5 rfl) ?_
                have b9 : vp_in y46_5 8 := inC rfl (by omega) (by omega)
                refine va_iald hx hb hK hP 2 0 rfl rfl b9 dX0_seek_72 ?_
                have g10 : 0 ≤ (thi y46_5.toNatClampNeg).toInt ∧ (thi y46_5.toNatClampNeg).toInt ≤ 23 := rg_at r_thi b9
                refine lv_topi (fun x11 ex11 => ?_)
                have ix11 : x11.toInt = (thi y46_5.toNatClampNeg).toInt := by rw [ex11]
                have b12 : vp_in fi 6 := inC rfl (by omega) (by omega)
                have g13 : rg 6 (0) (23) (upd ctr_46 fi.toNatClampNeg x11) := rg_upd r_ctr_46 rfl (by omega) (by omega)
                refine va_iast hx hb hK hP hD hS 3 0 rfl rfl b12 dX0_seek_73 (fun H locs hP hD hS => ?_)
                obtain ⟨ctr_u14, ectr_u14⟩ : ∃ f : Nat → Int32, f = upd ctr_46 fi.toNatClampNeg x11 := ⟨_, rfl⟩
                have rctr_u14 : rg 6 (0) (23) ctr_u14 := by rw [ectr_u14]; exact g13
                have hP : va_P (dC, dI) vwCl (wCod cI cZ cQ a ali thi ctr_u14 cbe_46 har_46 mar tol) H := by rw [ectr_u14]; exact hP
                have hD : va_D A (wCod cI cZ cQ a ali thi ctr_u14 cbe_46 har_46 mar tol) := by rw [ectr_u14]; exact hD
                refine lv_aload_n hx hb dX0_seek_74 rfl (lv_at hl 0 rfl) ?_
                refine lv_iload_n hx hb dX0_seek_75 rfl (lv_at hl 1 rfl) ?_
                refine lv_iconst (v := 1) hx hb dX0_seek_76 (by decide) ?_
                refine lv_iadd hx hb dX0_seek_77 ?_
                have f15 : (fi + 1).toInt = (fi.toInt) + (1) := addC rfl (show (1 : Int32).toInt = 1 from rfl) (by omega) (by omega)
                refine lv_iload_n hx hb dX0_seek_78 rfl (lv_at hl 2 rfl) ?_
                refine lv_iload_n hx hb dX0_seek_79 rfl (lv_at hl 3 rfl) ?_
                refine lv_iconst (v := 1) hx hb dX0_seek_80 (by decide) ?_
                refine lv_iload hx hb dX0_seek_81 (lv_at hl 5 rfl) ?_
                refine lv_ishl hx hb dX0_seek_83 ?_
                have f16 : 1 ≤ ((1 : Int32) <<< (y46_5 &&& 31)).toInt ∧ ((1 : Int32) <<< (y46_5 &&& 31)).toInt ≤ 32 := shl1 rfl (by omega) 5 (by omega) (by decide)
                refine lv_ior hx hb dX0_seek_84 ?_
                refine lv_iload hx hb dX0_seek_85 (lv_at hl 4 rfl) ?_
                refine lv_aload_n hx hb dX0_seek_87 rfl (lv_at hl 0 rfl) ?_
                refine lv_iload_n hx hb dX0_seek_88 rfl (lv_at hl 1 rfl) ?_
                refine rdV (As := [.int fi]) (rest := [.int ha, .int (us ||| ((1 : Int32) <<< (y46_5 &&& 31))), .int n, .int (fi + 1), .ref (a 28)]) ⟨hx, hb, hml, hown, hts⟩ (k_X0_harmOf l dC dI cI cZ cQ a ali thi ctr_u14 cbe_46 har_46 mar tol fi r_thi rctr_u14 r_mar r_tol (by omega) (by omega)) (cwV 1 hts gX0_seek_X0_harmOf rfl rfl rfl (by decide +kernel) ⟨Nat.le_of_ble_eq_true rfl, Nat.le_of_ble_eq_true rfl⟩) hP hK hN [0, 1, 2, 3, 4, 5, 6, 7] rfl 0 0 rfl rfl rfl hl.1 rfl (Nat.le_of_ble_eq_true rfl) dX0_seek_89 ⟨Nat.le_of_ble_eq_true rfl, Nat.le_of_ble_eq_true rfl⟩ (fun r17 h18 => ?_)
                have h18 : True := h18
                refine lv_iadd hx hb dX0_seek_92 ?_
                refine wvV (As := [.int (fi + 1), .int n, .int (us ||| ((1 : Int32) <<< (y46_5 &&& 31))), .int (ha + r17)]) (rest := []) (wr := []) (w2 := (fun u : US => (wCod cI cZ cQ a ali thi (u.1 0) (u.1 1) (u.1 2 0) mar tol))) ⟨hx, hb, hml, hown, hts⟩ (k_X0_seek_2 l dC dI cI cZ cQ a ali thi ctr_u14 cbe_46 har_46 mar tol _ (fi + 1) n (us ||| ((1 : Int32) <<< (y46_5 &&& 31))) (ha + r17) r_thi rctr_u14 r_mar r_tol (by omega) (by omega) (by omega) (by omega)) (cwV 4 hts gX0_seek_X0_seek rfl rfl rfl (by decide +kernel) ⟨Nat.le_of_ble_eq_true rfl, Nat.le_of_ble_eq_true rfl⟩) hP hD hS hA hK hN [0, 1, 2, 3, 4, 5, 6, 7] [] [0, 1, 2, 3, 4, 5, 6, 7] rfl rfl (by decide) (by decide) (by decide) (fun _ => rfl) (by decide) 0 0 rfl rfl rfl hl.1 rfl (Nat.le_of_ble_eq_true rfl) dX0_seek_93 ⟨Nat.le_of_ble_eq_true rfl, Nat.le_of_ble_eq_true rfl⟩ (fun u21 H locs h20 hP hD hS => ?_)
                obtain ⟨ctr_c22, ectr_c22⟩ : ∃ f : Nat → Int32, f = (u21.1 0) := ⟨_, rfl⟩
                obtain ⟨cbe_c23, ecbe_c23⟩ : ∃ f : Nat → Int32, f = (u21.1 1) := ⟨_, rfl⟩
                obtain ⟨har_c24, ehar_c24⟩ : ∃ f : Int32, f = (u21.1 2 0) := ⟨_, rfl⟩
                have hP : va_P (dC, dI) vwCl (wCod cI cZ cQ a ali thi ctr_c22 cbe_c23 har_c24 mar tol) H := by rw [ectr_c22, ecbe_c23, ehar_c24]; exact hP
                have hD : va_D A (wCod cI cZ cQ a ali thi ctr_c22 cbe_c23 har_c24 mar tol) := by rw [ectr_c22, ecbe_c23, ehar_c24]; exact hD
                have h20 : (rg 6 (0) (23) ctr_c22) := by (try rw [ectr_c22]); (try rw [ecbe_c23]); (try rw [ehar_c24]); exact h20
                have h20_0 := h20
                obtain ⟨z25, ez25⟩ : ∃ y : Int32, y = y46_5 + 1 := ⟨_, rfl⟩
                have iz25 : z25.toInt = y46_5.toInt + 1 := by rw [ez25]; exact addC rfl rfl (by omega) (by omega)
                refine lv_iinc (v := z25) (lv' := [(5, .int z25), (0, .ref (a 28)), (1, .int fi), (2, .int n), (3, .int us), (4, .int ha)]) hx hb dX0_seek_96 hl (k := 5) rfl (by rw [ez25]; rfl) (by decide) rfl (fun ls hl => ?_)
                refine lv_goto (tgt := 46) hx hb dX0_seek_99 (by decide) ?_
                exact ih46 z25 ctr_c22 cbe_c23 har_c24 _ _ _ h20_0 (by omega) (by omega) (by omega) hP hD hS (lv_sub hl [1, 2, 3, 4, 5, 0] rfl)
        have kc26 : (0 : Int32).toInt = 0 := rfl
        exact L46 _ 0 ctr cbe har _ _ _ r_ctr (by omega) (by omega) (Nat.lt_succ_self _) hP hD hS (lv_sub hl [1, 2, 3, 4, 5, 0] rfl)
      · have dc4 : 6 ≤ fi.toInt := nltC rfl (show (6 : Int32).toInt = 6 from rfl) c4
        exfalso
        omega
  · have dc1 : har.toInt ≤ ha.toInt := nltC rfl rfl c1
    exact W.vret hx hb hr (fun t ht hW => ⟨⟨(uS [ctr, cbe, (fun _ => har)] 0 (fun _ => 0)), rfl, r_ctr, by rw [ht]; exact hP, hD⟩, hS.F ht⟩) hS.2.2 dX0_seek_9
set_option maxHeartbeats 4000000 in
set_option maxRecDepth 100000 in
theorem k_X0_seek_4 (l : Launch) (dC : Nat → ClassId) (dI : Nat → Nat → Nat) (cI cZ cQ : ClassId) (a : Nat → Nat) (ali : Nat → Int32) (thi : Nat → Int32) (ctr : Nat → Int32) (cbe : Nat → Int32) (har : Int32) (mar : Nat → Int32) (tol : Nat → Int32) (sz : Nat) (fi : Int32) (n : Int32) (us : Int32) (ha : Int32) (r_thi : rg 8 (0) (23) thi) (r_ctr : rg 6 (0) (23) ctr) (r_mar : rg 24 (0) (255) mar) (r_tol : rg 8 (0) (23) tol) (q0 : 2 ≤ fi.toInt) (q1 : fi.toInt ≤ 6) (q2 : 2 ≤ n.toInt) (q3 : n.toInt ≤ 6) : KV l yX0_seek wsX0_seek { frames := 7, cells := 0, slots := 0, locals := 165 } (dC, dI) (TY cI cZ cQ) (wCod cI cZ cQ a ali thi ctr cbe har mar tol) [.ref (a 28), .int fi, .int n, .int us, .int ha] sz 0 0 (fun (u : US) => (rg 6 (0) (23) (u.1 0))) (fun u : US => (wCod cI cZ cQ a ali thi (u.1 0) (u.1 1) (u.1 2 0) mar tol)) := by
  refine Met.ofW (cc := cX0_seek) (maxL := 6) (ret := none) (by decide) rfl ?_
  intro p e s m args below meth c s₁ B hml hv
  obtain ⟨rfl, hsz, hP, hK, hD0, hN⟩ := hv
  have hx := B.exec
  have hb := B.bytes
  have hr := B.returns
  have hts := atoms_spec (ws := wsX0_seek) B.pre
  have hown : s.vm.findClass RX0 = some m.cls := findClass_of_methodNamed B.named
  have hlocks := B.notSynchronized
  have lf34 := hts (.fieldLink RX0 34 "PalaceOfRooms$Codes" "bestHarm" "I") (List.mem_cons_of_mem _ (List.mem_append_left _ (List.mem_append_left _ (List.mem_append_left _ (List.mem_of_getElem? (i := 0) rfl)))))
  have inX0 : ∀ w ∈ wsX00, w ∈ wsX0_seek := fun w h => List.mem_cons_of_mem _ (List.mem_append_left _ (List.mem_append_right _ h))
  have lf18 := hts (.fieldLink RX0 18 "PalaceOfRooms$Codes" "trial" "[I") (List.mem_cons_of_mem _ (List.mem_append_left _ (List.mem_append_left _ (List.mem_append_left _ (List.mem_of_getElem? (i := 1) rfl)))))
  have lf21 := hts (.fieldLink RX0 21 "PalaceOfRooms$Codes" "best" "[I") (List.mem_cons_of_mem _ (List.mem_append_left _ (List.mem_append_left _ (List.mem_append_left _ (List.mem_of_getElem? (i := 2) rfl)))))
  have lf15 := hts (.fieldLink RX0 15 "PalaceOfRooms$Codes" "things" "[I") (List.mem_cons_of_mem _ (List.mem_append_left _ (List.mem_append_left _ (List.mem_append_left _ (List.mem_of_getElem? (i := 7) rfl)))))
  subst hsz
  have hD := hD0.self (sz := s.heap.size)
  generalize hAe : va_A (wCod cI cZ cQ a ali thi ctr cbe har mar tol) s.heap.size = A at hD ⊢
  have hA : ∀ q : Nat, s.heap.size ≤ q → A q := fun q h => by rw [← hAe]; exact Or.inr h
  have hS : va_S A s.heap s.heap [] := va_S.rf
  have hl := lv_entry ([.ref (a 28), .int fi, .int n, .int us, .int ha]) (n := 6) (Nat.le_of_ble_eq_true rfl)
  rw [lg_entry_eq]
  generalize (lg_sl ([.ref (a 28), .int fi, .int n, .int us, .int ha]) ++ List.replicate (6 - (lg_sl ([.ref (a 28), .int fi, .int n, .int us, .int ha])).length) Slot.unset).toArray = ls at hl ⊢
  have hl : lv_has ls 6 [(0, .ref (a 28)), (1, .int fi), (2, .int n), (3, .int us), (4, .int ha)] := hl
  refine lv_iload hx hb dX0_seek_0 (lv_at hl 4 rfl) ?_
  refine lv_aload_n hx hb dX0_seek_2 rfl (lv_at hl 0 rfl) ?_
  refine va_get (D := (dC, dI)) (ci := 0) (v := .int har) (C := RX0) (T := TX0) (N := 6) hx hb hts inX0 hown hK hP 0 rfl rfl 5 (by decide) lf34 (fun _ h9 => h9) rfl dX0_seek_3 ?_
  refine lv_icmp_lt (tgt := 10) hx hb dX0_seek_6 (by decide) (fun c1 => ?_) (fun c1 => ?_)
  · have dc1 : ha.toInt < har.toInt := ltC rfl rfl c1
    refine lv_iload_n hx hb dX0_seek_10 rfl (lv_at hl 1 rfl) ?_
    refine lv_iload_n hx hb dX0_seek_11 rfl (lv_at hl 2 rfl) ?_
    refine lv_icmp_ge (tgt := 21) hx hb dX0_seek_12 (by decide) (fun c2 => ?_) (fun c2 => ?_)
    · have dc2 : n.toInt ≤ fi.toInt := leC rfl rfl c2
      refine lv_aload_n hx hb dX0_seek_21 rfl (lv_at hl 0 rfl) ?_
      refine lv_iload hx hb dX0_seek_22 (lv_at hl 4 rfl) ?_
      refine va_put (D := (dC, dI)) (ci := 0) (v := .int ha) (ty := .int) (C := RX0) (T := TX0) (N := 6) hx hb hts inX0 tyX0 tyX0_ok nmX0 hown hK hP hD hS 0 rfl rfl 5 (by decide) lf34 (fun _ h9 => h9) rfl (by decide +kernel) rfl rfl (Nat.le_of_ble_eq_true rfl) dX0_seek_24 (fun H locs hP hD hS => ?_)
      have hP : va_P (dC, dI) vwCl (wCod cI cZ cQ a ali thi ctr cbe ha mar tol) H := hP
      have hD : va_D A (wCod cI cZ cQ a ali thi ctr cbe ha mar tol) := hD
      refine lv_aload_n hx hb dX0_seek_27 rfl (lv_at hl 0 rfl) ?_
      refine va_get (D := (dC, dI)) (ci := 0) (v := .ref (a 31)) (C := RX0) (T := TX0) (N := 6) hx hb hts inX0 hown hK hP 0 rfl rfl 3 (by decide) lf18 (fun _ h9 => h9) rfl dX0_seek_28 ?_
      refine lv_iconst (v := 0) hx hb dX0_seek_31 (by decide) ?_
      refine lv_aload_n hx hb dX0_seek_32 rfl (lv_at hl 0 rfl) ?_
      refine va_get (D := (dC, dI)) (ci := 0) (v := .ref (a 32)) (C := RX0) (T := TX0) (N := 6) hx hb hts inX0 hown hK hP 0 rfl rfl 4 (by decide) lf21 (fun _ h9 => h9) rfl dX0_seek_33 ?_
      refine lv_iconst (v := 0) hx hb dX0_seek_36 (by decide) ?_
      refine lv_bipush (v := 6) hx hb dX0_seek_37 (by decide) ?_
      refine va_copyi (ty := .int) (n := 6) hx hb (by rw [hml]; exact hl.1.symm) hown (hts (.methodLink RX0 28 arraycopyName) (List.mem_cons_of_mem _ (List.mem_append_left _ (List.mem_append_left _ (List.mem_append_left _ (List.mem_of_getElem? (i := 3) rfl)))))) (hts (.native arraycopyName) (List.mem_cons_of_mem _ (List.mem_append_left _ (List.mem_append_left _ (List.mem_append_left _ (List.mem_of_getElem? (i := 4) rfl)))))) (hts (.static arraycopyName) (List.mem_cons_of_mem _ (List.mem_append_left _ (List.mem_append_left _ (List.mem_append_left _ (List.mem_of_getElem? (i := 5) rfl)))))) (hts (.initialized "java/lang/System") (List.mem_cons_of_mem _ (List.mem_append_left _ (List.mem_append_left _ (List.mem_append_left _ (List.mem_of_getElem? (i := 6) rfl)))))) hK hP hD hS 3 4 0 0 rfl rfl rfl rfl rfl (by decide) (by decide) (by decide) (by decide) (by decide) (fun _ _ => rfl) (Nat.le_of_ble_eq_true rfl) (Nat.le_of_ble_eq_true rfl) dX0_seek_39 (fun H locs hP hD hS => ?_)
      obtain ⟨cbe_u3, ecbe_u3⟩ : ∃ f : Nat → Int32, f = va_cpy ctr cbe 0 0 6 := ⟨_, rfl⟩
      have hP : va_P (dC, dI) vwCl (wCod cI cZ cQ a ali thi ctr cbe_u3 ha mar tol) H := by rw [ecbe_u3]; exact hP
      have hD : va_D A (wCod cI cZ cQ a ali thi ctr cbe_u3 ha mar tol) := by rw [ecbe_u3]; exact hD
      exact W.vret hx hb hr (fun t ht hW => ⟨⟨(uS [ctr, cbe_u3, (fun _ => ha)] 0 (fun _ => 0)), rfl, r_ctr, by rw [ht]; exact hP, hD⟩, hS.F ht⟩) hS.2.2 dX0_seek_42
    · have dc2 : fi.toInt < n.toInt := nleC rfl rfl c2
      refine lv_iload_n hx hb dX0_seek_15 rfl (lv_at hl 1 rfl) ?_
      refine lv_bipush (v := 6) hx hb dX0_seek_16 (by decide) ?_
      refine lv_icmp_lt (tgt := 43) hx hb dX0_seek_18 (by decide) (fun c4 => ?_) (fun c4 => ?_)
      · have dc4 : fi.toInt < 6 := ltC rfl (show (6 : Int32).toInt = 6 from rfl) c4
        refine lv_iconst (v := 0) hx hb dX0_seek_43 (by decide) ?_
        refine lv_istore (lv' := [(5, .int 0), (0, .ref (a 28)), (1, .int fi), (2, .int n), (3, .int us), (4, .int ha)]) hx hb dX0_seek_44 hl (by decide) rfl (fun ls hl => ?_)
        have L46 : ∀ (nn : Nat) (y46_5 : Int32) (ctr_46 : Nat → Int32) (cbe_46 : Nat → Int32) (har_46 : Int32) (H : Heap) (locs : List Loc) (ls : Array Slot), (rg 6 (0) (23) ctr_46) → (0 ≤ (y46_5.toInt)) → ((y46_5.toInt) ≤ 6) → (6 - (y46_5.toInt)).toNat < nn → va_P (dC, dI) vwCl (wCod cI cZ cQ a ali thi ctr_46 cbe_46 har_46 mar tol) H → va_D A (wCod cI cZ cQ a ali thi ctr_46 cbe_46 har_46 mar tol) → va_S A s.heap H locs → lv_has ls 6 [(0, .ref (a 28)), (1, .int fi), (2, .int n), (3, .int us), (4, .int ha), (5, .int y46_5)] → W p l e (headSpec wsX0_seek { frames := 7, cells := 0, slots := 0, locals := 165 }).room s m ([.ref (a 28), .int fi, .int n, .int us, .int ha] : List Value).toArray below meth c H locs 0 0 (MQ below (va_Qv (fun (u : US) => (rg 6 (0) (23) (u.1 0))) (Bw (dC, dI) A (fun u : US => (wCod cI cZ cQ a ali thi (u.1 0) (u.1 1) (u.1 2 0) mar tol))) A) ([.ref (a 28), .int fi, .int n, .int us, .int ha] : List Value).toArray s 0 0 A) (F0 m 46 ls []) := by
          intro nn
          induction nn with
          | zero =>
            intro y46_5 ctr_46 cbe_46 har_46 H locs ls r_ctr_46 i46_0 i46_1 hm
            exact absurd hm (Nat.not_lt_zero _)
          | succ nn ih46 =>
            intro y46_5 ctr_46 cbe_46 har_46 H locs ls r_ctr_46 i46_0 i46_1 hm hP hD hS hl
            refine lv_iload hx hb dX0_seek_46 (lv_at hl 5 rfl) ?_
            refine lv_iload_n hx hb dX0_seek_48 rfl (lv_at hl 2 rfl) ?_
            refine lv_icmp_ge (tgt := 102) hx hb dX0_seek_49 (by decide) (fun c5 => ?_) (fun c5 => ?_)
            · have dc5 : n.toInt ≤ y46_5.toInt := leC rfl rfl c5
              exact W.vret hx hb hr (fun t ht hW => ⟨⟨(uS [ctr_46, cbe_46, (fun _ => har_46)] 0 (fun _ => 0)), rfl, r_ctr_46, by rw [ht]; exact hP, hD⟩, hS.F ht⟩) hS.2.2 dX0_seek_102
            · have dc5 : y46_5.toInt < n.toInt := nleC rfl rfl c5
              refine lv_iload_n hx hb dX0_seek_52 rfl (lv_at hl 3 rfl) ?_
              refine lv_iload hx hb dX0_seek_53 (lv_at hl 5 rfl) ?_
              refine lv_ishr hx hb dX0_seek_55 ?_
              refine lv_iconst (v := 1) hx hb dX0_seek_56 (by decide) ?_
              refine lv_iand hx hb dX0_seek_57 ?_
              have f6 := andR (a := (us >>> (y46_5 &&& 31))) (m := 1) (M := 1) rfl (by decide)
              refine lv_if_ne (tgt := 96) hx hb dX0_seek_58 (by decide) (fun c7 => ?_) (fun c7 => ?_)
              · have dc7 : ((us >>> (y46_5 &&& 31)) &&& 1).toInt ≠ 0 := neC rfl (show (0 : Int32).toInt = 0 from rfl) c7
                obtain ⟨z8, ez8⟩ : ∃ y : Int32, y = y46_5 + 1 := ⟨_, rfl⟩
                have iz8 : z8.toInt = y46_5.toInt + 1 := by rw [ez8]; exact addC rfl rfl (by omega) (by omega)
                refine lv_iinc (v := z8) (lv' := [(5, .int z8), (0, .ref (a 28)), (1, .int fi), (2, .int n), (3, .int us), (4, .int ha)]) hx hb dX0_seek_96 hl (k := 5) rfl (by rw [ez8]; rfl) (by decide) rfl (fun ls hl => ?_)
                refine lv_goto (tgt := 46) hx hb dX0_seek_99 (by decide) ?_
                exact ih46 z8 ctr_46 cbe_46 har_46 _ _ _ r_ctr_46 (by omega) (by omega) (by omega) hP hD hS (lv_sub hl [1, 2, 3, 4, 5, 0] rfl)
              · have dc7 : ((us >>> (y46_5 &&& 31)) &&& 1).toInt = 0 := eqC rfl (show (0 : Int32).toInt = 0 from rfl) c7
                refine lv_aload_n hx hb dX0_seek_61 rfl (lv_at hl 0 rfl) ?_
                refine va_get (D := (dC, dI)) (ci := 0) (v := .ref (a 31)) (C := RX0) (T := TX0) (N := 6) hx hb hts inX0 hown hK hP 0 rfl rfl 3 (by decide) lf18 (fun _ h9 => h9) rfl dX0_seek_62 ?_
                refine lv_iload_n hx hb dX0_seek_65 rfl (lv_at hl 1 rfl) ?_
                refine lv_aload_n hx hb dX0_seek_66 rfl (lv_at hl 0 rfl) ?_
                refine va_get (D := (dC, dI)) (ci := 0) (v := .ref (a 30)) (C := RX0) (T := TX0) (N := 6) hx hb hts inX0 hown hK hP 0 rfl rfl 2 (by decide) lf15 (fun _ h9 => h9) rfl dX0_seek_67 ?_
                refine lv_iload hx hb dX0_seek_70 (lv_at hl 5 rfl) ?_
                have b9 : vp_in y46_5 8 := inC rfl (by omega) (by omega)
                refine va_iald hx hb hK hP 2 0 rfl rfl b9 dX0_seek_72 ?_
                have g10 : 0 ≤ (thi y46_5.toNatClampNeg).toInt ∧ (thi y46_5.toNatClampNeg).toInt ≤ 23 := rg_at r_thi b9
                refine lv_topi (fun x11 ex11 => ?_)
                have ix11 : x11.toInt = (thi y46_5.toNatClampNeg).toInt := by rw [ex11]
                have b12 : vp_in fi 6 := inC rfl (by omega) (by omega)
                have g13 : rg 6 (0) (23) (upd ctr_46 fi.toNatClampNeg x11) := rg_upd r_ctr_46 rfl (by omega) (by omega)
                refine va_iast hx hb hK hP hD hS 3 0 rfl rfl b12 dX0_seek_73 (fun H locs hP hD hS => ?_)
                obtain ⟨ctr_u14, ectr_u14⟩ : ∃ f : Nat → Int32, f = upd ctr_46 fi.toNatClampNeg x11 := ⟨_, rfl⟩
                have rctr_u14 : rg 6 (0) (23) ctr_u14 := by rw [ectr_u14]; exact g13
                have hP : va_P (dC, dI) vwCl (wCod cI cZ cQ a ali thi ctr_u14 cbe_46 har_46 mar tol) H := by rw [ectr_u14]; exact hP
                have hD : va_D A (wCod cI cZ cQ a ali thi ctr_u14 cbe_46 har_46 mar tol) := by rw [ectr_u14]; exact hD
                refine lv_aload_n hx hb dX0_seek_74 rfl (lv_at hl 0 rfl) ?_
                refine lv_iload_n hx hb dX0_seek_75 rfl (lv_at hl 1 rfl) ?_
                refine lv_iconst (v := 1) hx hb dX0_seek_76 (by decide) ?_
                refine lv_iadd hx hb dX0_seek_77 ?_
                have f15 : (fi + 1).toInt = (fi.toInt) + (1) := addC rfl (show (1 : Int32).toInt = 1 from rfl) (by omega) (by omega)
                refine lv_iload_n hx hb dX0_seek_78 rfl (lv_at hl 2 rfl) ?_
                refine lv_iload_n hx hb dX0_seek_79 rfl (lv_at hl 3 rfl) ?_
                refine lv_iconst (v := 1) hx hb dX0_seek_80 (by decide) ?_
                refine lv_iload hx hb dX0_seek_81 (lv_at hl 5 rfl) ?_
                refine lv_ishl hx hb dX0_seek_83 ?_
                have f16 : 1 ≤ ((1 : Int32) <<< (y46_5 &&& 31)).toInt ∧ ((1 : Int32) <<< (y46_5 &&& 31)).toInt ≤ 32 := shl1 rfl (by omega) 5 (by omega) (by decide)
                refine lv_ior hx hb dX0_seek_84 ?_
                refine lv_iload hx hb dX0_seek_85 (lv_at hl 4 rfl) ?_
                refine lv_aload_n hx hb dX0_seek_87 rfl (lv_at hl 0 rfl) ?_
                refine lv_iload_n hx hb dX0_seek_88 rfl (lv_at hl 1 rfl) ?_
                refine rdV (As := [.int fi]) (rest := [.int ha, .int (us ||| ((1 : Int32) <<< (y46_5 &&& 31))), .int n, .int (fi + 1), .ref (a 28)]) ⟨hx, hb, hml, hown, hts⟩ (k_X0_harmOf l dC dI cI cZ cQ a ali thi ctr_u14 cbe_46 har_46 mar tol fi r_thi rctr_u14 r_mar r_tol (by omega) (by omega)) (cwV 1 hts gX0_seek_X0_harmOf rfl rfl rfl (by decide +kernel) ⟨Nat.le_of_ble_eq_true rfl, Nat.le_of_ble_eq_true rfl⟩) hP hK hN [0, 1, 2, 3, 4, 5, 6, 7] rfl 0 0 rfl rfl rfl hl.1 rfl (Nat.le_of_ble_eq_true rfl) dX0_seek_89 ⟨Nat.le_of_ble_eq_true rfl, Nat.le_of_ble_eq_true rfl⟩ (fun r17 h18 => ?_)
                have h18 : True := h18
                refine lv_iadd hx hb dX0_seek_92 ?_
                refine wvV (As := [.int (fi + 1), .int n, .int (us ||| ((1 : Int32) <<< (y46_5 &&& 31))), .int (ha + r17)]) (rest := []) (wr := []) (w2 := (fun u : US => (wCod cI cZ cQ a ali thi (u.1 0) (u.1 1) (u.1 2 0) mar tol))) ⟨hx, hb, hml, hown, hts⟩ (k_X0_seek_3 l dC dI cI cZ cQ a ali thi ctr_u14 cbe_46 har_46 mar tol _ (fi + 1) n (us ||| ((1 : Int32) <<< (y46_5 &&& 31))) (ha + r17) r_thi rctr_u14 r_mar r_tol (by omega) (by omega) (by omega) (by omega)) (cwV 4 hts gX0_seek_X0_seek rfl rfl rfl (by decide +kernel) ⟨Nat.le_of_ble_eq_true rfl, Nat.le_of_ble_eq_true rfl⟩) hP hD hS hA hK hN [0, 1, 2, 3, 4, 5, 6, 7] [] [0, 1, 2, 3, 4, 5, 6, 7] rfl rfl (by decide) (by decide) (by decide) (fun _ => rfl) (by decide) 0 0 rfl rfl rfl hl.1 rfl (Nat.le_of_ble_eq_true rfl) dX0_seek_93 ⟨Nat.le_of_ble_eq_true rfl, Nat.le_of_ble_eq_true rfl⟩ (fun u21 H locs h20 hP hD hS => ?_)
                obtain ⟨ctr_c22, ectr_c22⟩ : ∃ f : Nat → Int32, f = (u21.1 0) := ⟨_, rfl⟩
                obtain ⟨cbe_c23, ecbe_c23⟩ : ∃ f : Nat → Int32, f = (u21.1 1) := ⟨_, rfl⟩
                obtain ⟨har_c24, ehar_c24⟩ : ∃ f : Int32, f = (u21.1 2 0) := ⟨_, rfl⟩
                have hP : va_P (dC, dI) vwCl (wCod cI cZ cQ a ali thi ctr_c22 cbe_c23 har_c24 mar tol) H := by rw [ectr_c22, ecbe_c23, ehar_c24]; exact hP
                have hD : va_D A (wCod cI cZ cQ a ali thi ctr_c22 cbe_c23 har_c24 mar tol) := by rw [ectr_c22, ecbe_c23, ehar_c24]; exact hD
                have h20 : (rg 6 (0) (23) ctr_c22) := by (try rw [ectr_c22]); (try rw [ecbe_c23]); (try rw [ehar_c24]); exact h20
                have h20_0 := h20
                obtain ⟨z25, ez25⟩ : ∃ y : Int32, y = y46_5 + 1 := ⟨_, rfl⟩
                have iz25 : z25.toInt = y46_5.toInt + 1 := by rw [ez25]; exact addC rfl rfl (by omega) (by omega)
                refine lv_iinc (v := z25) (lv' := [(5, .int z25), (0, .ref (a 28)), (1, .int fi), (2, .int n), (3, .int us), (4, .int ha)]) hx hb dX0_seek_96 hl (k := 5) rfl (by rw [ez25]; rfl) (by decide) rfl (fun ls hl => ?_)
                refine lv_goto (tgt := 46) hx hb dX0_seek_99 (by decide) ?_
                exact ih46 z25 ctr_c22 cbe_c23 har_c24 _ _ _ h20_0 (by omega) (by omega) (by omega) hP hD hS (lv_sub hl [1, 2, 3, 4, 5, 0] rfl)
        have kc26 : (0 : Int32).toInt = 0 := rfl
        exact L46 _ 0 ctr cbe har _ _ _ r_ctr (by omega) (by omega) (Nat.lt_succ_self _) hP hD hS (lv_sub hl [1, 2, 3, 4, 5, 0] rfl)
      · have dc4 : 6 ≤ fi.toInt := nltC rfl (show (6 : Int32).toInt = 6 from rfl) c4
        exfalso
        omega
  · have dc1 : har.toInt ≤ ha.toInt := nltC rfl rfl c1
    exact W.vret hx hb hr (fun t ht hW => ⟨⟨(uS [ctr, cbe, (fun _ => har)] 0 (fun _ => 0)), rfl, r_ctr, by rw [ht]; exact hP, hD⟩, hS.F ht⟩) hS.2.2 dX0_seek_9
set_option maxHeartbeats 4000000 in
set_option maxRecDepth 100000 in
theorem k_X0_seek_5 (l : Launch) (dC : Nat → ClassId) (dI : Nat → Nat → Nat) (cI cZ cQ : ClassId) (a : Nat → Nat) (ali : Nat → Int32) (thi : Nat → Int32) (ctr : Nat → Int32) (cbe : Nat → Int32) (har : Int32) (mar : Nat → Int32) (tol : Nat → Int32) (sz : Nat) (fi : Int32) (n : Int32) (us : Int32) (ha : Int32) (r_thi : rg 8 (0) (23) thi) (r_ctr : rg 6 (0) (23) ctr) (r_mar : rg 24 (0) (255) mar) (r_tol : rg 8 (0) (23) tol) (q0 : 1 ≤ fi.toInt) (q1 : fi.toInt ≤ 6) (q2 : 2 ≤ n.toInt) (q3 : n.toInt ≤ 6) : KV l yX0_seek wsX0_seek { frames := 8, cells := 0, slots := 0, locals := 190 } (dC, dI) (TY cI cZ cQ) (wCod cI cZ cQ a ali thi ctr cbe har mar tol) [.ref (a 28), .int fi, .int n, .int us, .int ha] sz 0 0 (fun (u : US) => (rg 6 (0) (23) (u.1 0))) (fun u : US => (wCod cI cZ cQ a ali thi (u.1 0) (u.1 1) (u.1 2 0) mar tol)) := by
  refine Met.ofW (cc := cX0_seek) (maxL := 6) (ret := none) (by decide) rfl ?_
  intro p e s m args below meth c s₁ B hml hv
  obtain ⟨rfl, hsz, hP, hK, hD0, hN⟩ := hv
  have hx := B.exec
  have hb := B.bytes
  have hr := B.returns
  have hts := atoms_spec (ws := wsX0_seek) B.pre
  have hown : s.vm.findClass RX0 = some m.cls := findClass_of_methodNamed B.named
  have hlocks := B.notSynchronized
  have lf34 := hts (.fieldLink RX0 34 "PalaceOfRooms$Codes" "bestHarm" "I") (List.mem_cons_of_mem _ (List.mem_append_left _ (List.mem_append_left _ (List.mem_append_left _ (List.mem_of_getElem? (i := 0) rfl)))))
  have inX0 : ∀ w ∈ wsX00, w ∈ wsX0_seek := fun w h => List.mem_cons_of_mem _ (List.mem_append_left _ (List.mem_append_right _ h))
  have lf18 := hts (.fieldLink RX0 18 "PalaceOfRooms$Codes" "trial" "[I") (List.mem_cons_of_mem _ (List.mem_append_left _ (List.mem_append_left _ (List.mem_append_left _ (List.mem_of_getElem? (i := 1) rfl)))))
  have lf21 := hts (.fieldLink RX0 21 "PalaceOfRooms$Codes" "best" "[I") (List.mem_cons_of_mem _ (List.mem_append_left _ (List.mem_append_left _ (List.mem_append_left _ (List.mem_of_getElem? (i := 2) rfl)))))
  have lf15 := hts (.fieldLink RX0 15 "PalaceOfRooms$Codes" "things" "[I") (List.mem_cons_of_mem _ (List.mem_append_left _ (List.mem_append_left _ (List.mem_append_left _ (List.mem_of_getElem? (i := 7) rfl)))))
  subst hsz
  have hD := hD0.self (sz := s.heap.size)
  generalize hAe : va_A (wCod cI cZ cQ a ali thi ctr cbe har mar tol) s.heap.size = A at hD ⊢
  have hA : ∀ q : Nat, s.heap.size ≤ q → A q := fun q h => by rw [← hAe]; exact Or.inr h
  have hS : va_S A s.heap s.heap [] := va_S.rf
  have hl := lv_entry ([.ref (a 28), .int fi, .int n, .int us, .int ha]) (n := 6) (Nat.le_of_ble_eq_true rfl)
  rw [lg_entry_eq]
  generalize (lg_sl ([.ref (a 28), .int fi, .int n, .int us, .int ha]) ++ List.replicate (6 - (lg_sl ([.ref (a 28), .int fi, .int n, .int us, .int ha])).length) Slot.unset).toArray = ls at hl ⊢
  have hl : lv_has ls 6 [(0, .ref (a 28)), (1, .int fi), (2, .int n), (3, .int us), (4, .int ha)] := hl
  refine lv_iload hx hb dX0_seek_0 (lv_at hl 4 rfl) ?_
  refine lv_aload_n hx hb dX0_seek_2 rfl (lv_at hl 0 rfl) ?_
  refine va_get (D := (dC, dI)) (ci := 0) (v := .int har) (C := RX0) (T := TX0) (N := 6) hx hb hts inX0 hown hK hP 0 rfl rfl 5 (by decide) lf34 (fun _ h9 => h9) rfl dX0_seek_3 ?_
  refine lv_icmp_lt (tgt := 10) hx hb dX0_seek_6 (by decide) (fun c1 => ?_) (fun c1 => ?_)
  · have dc1 : ha.toInt < har.toInt := ltC rfl rfl c1
    refine lv_iload_n hx hb dX0_seek_10 rfl (lv_at hl 1 rfl) ?_
    refine lv_iload_n hx hb dX0_seek_11 rfl (lv_at hl 2 rfl) ?_
    refine lv_icmp_ge (tgt := 21) hx hb dX0_seek_12 (by decide) (fun c2 => ?_) (fun c2 => ?_)
    · have dc2 : n.toInt ≤ fi.toInt := leC rfl rfl c2
      refine lv_aload_n hx hb dX0_seek_21 rfl (lv_at hl 0 rfl) ?_
      refine lv_iload hx hb dX0_seek_22 (lv_at hl 4 rfl) ?_
      refine va_put (D := (dC, dI)) (ci := 0) (v := .int ha) (ty := .int) (C := RX0) (T := TX0) (N := 6) hx hb hts inX0 tyX0 tyX0_ok nmX0 hown hK hP hD hS 0 rfl rfl 5 (by decide) lf34 (fun _ h9 => h9) rfl (by decide +kernel) rfl rfl (Nat.le_of_ble_eq_true rfl) dX0_seek_24 (fun H locs hP hD hS => ?_)
      have hP : va_P (dC, dI) vwCl (wCod cI cZ cQ a ali thi ctr cbe ha mar tol) H := hP
      have hD : va_D A (wCod cI cZ cQ a ali thi ctr cbe ha mar tol) := hD
      refine lv_aload_n hx hb dX0_seek_27 rfl (lv_at hl 0 rfl) ?_
      refine va_get (D := (dC, dI)) (ci := 0) (v := .ref (a 31)) (C := RX0) (T := TX0) (N := 6) hx hb hts inX0 hown hK hP 0 rfl rfl 3 (by decide) lf18 (fun _ h9 => h9) rfl dX0_seek_28 ?_
      refine lv_iconst (v := 0) hx hb dX0_seek_31 (by decide) ?_
      refine lv_aload_n hx hb dX0_seek_32 rfl (lv_at hl 0 rfl) ?_
      refine va_get (D := (dC, dI)) (ci := 0) (v := .ref (a 32)) (C := RX0) (T := TX0) (N := 6) hx hb hts inX0 hown hK hP 0 rfl rfl 4 (by decide) lf21 (fun _ h9 => h9) rfl dX0_seek_33 ?_
      refine lv_iconst (v := 0) hx hb dX0_seek_36 (by decide) ?_
      refine lv_bipush (v := 6) hx hb dX0_seek_37 (by decide) ?_
      refine va_copyi (ty := .int) (n := 6) hx hb (by rw [hml]; exact hl.1.symm) hown (hts (.methodLink RX0 28 arraycopyName) (List.mem_cons_of_mem _ (List.mem_append_left _ (List.mem_append_left _ (List.mem_append_left _ (List.mem_of_getElem? (i := 3) rfl)))))) (hts (.native arraycopyName) (List.mem_cons_of_mem _ (List.mem_append_left _ (List.mem_append_left _ (List.mem_append_left _ (List.mem_of_getElem? (i := 4) rfl)))))) (hts (.static arraycopyName) (List.mem_cons_of_mem _ (List.mem_append_left _ (List.mem_append_left _ (List.mem_append_left _ (List.mem_of_getElem? (i := 5) rfl)))))) (hts (.initialized "java/lang/System") (List.mem_cons_of_mem _ (List.mem_append_left _ (List.mem_append_left _ (List.mem_append_left _ (List.mem_of_getElem? (i := 6) rfl)))))) hK hP hD hS 3 4 0 0 rfl rfl rfl rfl rfl (by decide) (by decide) (by decide) (by decide) (by decide) (fun _ _ => rfl) (Nat.le_of_ble_eq_true rfl) (Nat.le_of_ble_eq_true rfl) dX0_seek_39 (fun H locs hP hD hS => ?_)
      obtain ⟨cbe_u3, ecbe_u3⟩ : ∃ f : Nat → Int32, f = va_cpy ctr cbe 0 0 6 := ⟨_, rfl⟩
      have hP : va_P (dC, dI) vwCl (wCod cI cZ cQ a ali thi ctr cbe_u3 ha mar tol) H := by rw [ecbe_u3]; exact hP
      have hD : va_D A (wCod cI cZ cQ a ali thi ctr cbe_u3 ha mar tol) := by rw [ecbe_u3]; exact hD
      exact W.vret hx hb hr (fun t ht hW => ⟨⟨(uS [ctr, cbe_u3, (fun _ => ha)] 0 (fun _ => 0)), rfl, r_ctr, by rw [ht]; exact hP, hD⟩, hS.F ht⟩) hS.2.2 dX0_seek_42
    · have dc2 : fi.toInt < n.toInt := nleC rfl rfl c2
      refine lv_iload_n hx hb dX0_seek_15 rfl (lv_at hl 1 rfl) ?_
      refine lv_bipush (v := 6) hx hb dX0_seek_16 (by decide) ?_
      refine lv_icmp_lt (tgt := 43) hx hb dX0_seek_18 (by decide) (fun c4 => ?_) (fun c4 => ?_)
      · have dc4 : fi.toInt < 6 := ltC rfl (show (6 : Int32).toInt = 6 from rfl) c4
        refine lv_iconst (v := 0) hx hb dX0_seek_43 (by decide) ?_
        refine lv_istore (lv' := [(5, .int 0), (0, .ref (a 28)), (1, .int fi), (2, .int n), (3, .int us), (4, .int ha)]) hx hb dX0_seek_44 hl (by decide) rfl (fun ls hl => ?_)
        have L46 : ∀ (nn : Nat) (y46_5 : Int32) (ctr_46 : Nat → Int32) (cbe_46 : Nat → Int32) (har_46 : Int32) (H : Heap) (locs : List Loc) (ls : Array Slot), (rg 6 (0) (23) ctr_46) → (0 ≤ (y46_5.toInt)) → ((y46_5.toInt) ≤ 6) → (6 - (y46_5.toInt)).toNat < nn → va_P (dC, dI) vwCl (wCod cI cZ cQ a ali thi ctr_46 cbe_46 har_46 mar tol) H → va_D A (wCod cI cZ cQ a ali thi ctr_46 cbe_46 har_46 mar tol) → va_S A s.heap H locs → lv_has ls 6 [(0, .ref (a 28)), (1, .int fi), (2, .int n), (3, .int us), (4, .int ha), (5, .int y46_5)] → W p l e (headSpec wsX0_seek { frames := 8, cells := 0, slots := 0, locals := 190 }).room s m ([.ref (a 28), .int fi, .int n, .int us, .int ha] : List Value).toArray below meth c H locs 0 0 (MQ below (va_Qv (fun (u : US) => (rg 6 (0) (23) (u.1 0))) (Bw (dC, dI) A (fun u : US => (wCod cI cZ cQ a ali thi (u.1 0) (u.1 1) (u.1 2 0) mar tol))) A) ([.ref (a 28), .int fi, .int n, .int us, .int ha] : List Value).toArray s 0 0 A) (F0 m 46 ls []) := by
          intro nn
          induction nn with
          | zero =>
            intro y46_5 ctr_46 cbe_46 har_46 H locs ls r_ctr_46 i46_0 i46_1 hm
            exact absurd hm (Nat.not_lt_zero _)
          | succ nn ih46 =>
            intro y46_5 ctr_46 cbe_46 har_46 H locs ls r_ctr_46 i46_0 i46_1 hm hP hD hS hl
            refine lv_iload hx hb dX0_seek_46 (lv_at hl 5 rfl) ?_
            refine lv_iload_n hx hb dX0_seek_48 rfl (lv_at hl 2 rfl) ?_
            refine lv_icmp_ge (tgt := 102) hx hb dX0_seek_49 (by decide) (fun c5 => ?_) (fun c5 => ?_)
            · have dc5 : n.toInt ≤ y46_5.toInt := leC rfl rfl c5
              exact W.vret hx hb hr (fun t ht hW => ⟨⟨(uS [ctr_46, cbe_46, (fun _ => har_46)] 0 (fun _ => 0)), rfl, r_ctr_46, by rw [ht]; exact hP, hD⟩, hS.F ht⟩) hS.2.2 dX0_seek_102
            · have dc5 : y46_5.toInt < n.toInt := nleC rfl rfl c5
              refine lv_iload_n hx hb dX0_seek_52 rfl (lv_at hl 3 rfl) ?_
              refine lv_iload hx hb dX0_seek_53 (lv_at hl 5 rfl) ?_
              refine lv_ishr hx hb dX0_seek_55 ?_
              refine lv_iconst (v := 1) hx hb dX0_seek_56 (by decide) ?_
              refine lv_iand hx hb dX0_seek_57 ?_
              have f6 := andR (a := (us >>> (y46_5 &&& 31))) (m := 1) (M := 1) rfl (by decide)
              refine lv_if_ne (tgt := 96) hx hb dX0_seek_58 (by decide) (fun c7 => ?_) (fun c7 => ?_)
              · have dc7 : ((us >>> (y46_5 &&& 31)) &&& 1).toInt ≠ 0 := neC rfl (show (0 : Int32).toInt = 0 from rfl) c7
                obtain ⟨z8, ez8⟩ : ∃ y : Int32, y = y46_5 + 1 := ⟨_, rfl⟩
                have iz8 : z8.toInt = y46_5.toInt + 1 := by rw [ez8]; exact addC rfl rfl (by omega) (by omega)
                refine lv_iinc (v := z8) (lv' := [(5, .int z8), (0, .ref (a 28)), (1, .int fi), (2, .int n), (3, .int us), (4, .int ha)]) hx hb dX0_seek_96 hl (k := 5) rfl (by rw [ez8]; rfl) (by decide) rfl (fun ls hl => ?_)
                refine lv_goto (tgt := 46) hx hb dX0_seek_99 (by decide) ?_
                exact ih46 z8 ctr_46 cbe_46 har_46 _ _ _ r_ctr_46 (by omega) (by omega) (by omega) hP hD hS (lv_sub hl [1, 2, 3, 4, 5, 0] rfl)
              · have dc7 : ((us >>> (y46_5 &&& 31)) &&& 1).toInt = 0 := eqC rfl (show (0 : Int32).toInt = 0 from rfl) c7
                refine lv_aload_n hx hb dX0_seek_61 rfl (lv_at hl 0 rfl) ?_
                refine va_get (D := (dC, dI)) (ci := 0) (v := .ref (a 31)) (C := RX0) (T := TX0) (N := 6) hx hb hts inX0 hown hK hP 0 rfl rfl 3 (by decide) lf18 (fun _ h9 => h9) rfl dX0_seek_62 ?_
                refine lv_iload_n hx hb dX0_seek_65 rfl (lv_at hl 1 rfl) ?_
                refine lv_aload_n hx hb dX0_seek_66 rfl (lv_at hl 0 rfl) ?_
                refine va_get (D := (dC, dI)) (ci := 0) (v := .ref (a 30)) (C := RX0) (T := TX0) (N := 6) hx hb hts inX0 hown hK hP 0 rfl rfl 2 (by decide) lf15 (fun _ h9 => h9) rfl dX0_seek_67 ?_
                refine lv_iload hx hb dX0_seek_70 (lv_at hl 5 rfl) ?_
                have b9 : vp_in y46_5 8 := inC rfl (by omega) (by omega)
                refine va_iald hx hb hK hP 2 0 rfl rfl b9 dX0_seek_72 ?_
                have g10 : 0 ≤ (thi y46_5.toNatClampNeg).toInt ∧ (thi y46_5.toNatClampNeg).toInt ≤ 23 := rg_at r_thi b9
                refine lv_topi (fun x11 ex11 => ?_)
                have ix11 : x11.toInt = (thi y46_5.toNatClampNeg).toInt := by rw [ex11]
                have b12 : vp_in fi 6 := inC rfl (by omega) (by omega)
                have g13 : rg 6 (0) (23) (upd ctr_46 fi.toNatClampNeg x11) := rg_upd r_ctr_46 rfl (by omega) (by omega)
                refine va_iast hx hb hK hP hD hS 3 0 rfl rfl b12 dX0_seek_73 (fun H locs hP hD hS => ?_)
                obtain ⟨ctr_u14, ectr_u14⟩ : ∃ f : Nat → Int32, f = upd ctr_46 fi.toNatClampNeg x11 := ⟨_, rfl⟩
                have rctr_u14 : rg 6 (0) (23) ctr_u14 := by rw [ectr_u14]; exact g13
                have hP : va_P (dC, dI) vwCl (wCod cI cZ cQ a ali thi ctr_u14 cbe_46 har_46 mar tol) H := by rw [ectr_u14]; exact hP
                have hD : va_D A (wCod cI cZ cQ a ali thi ctr_u14 cbe_46 har_46 mar tol) := by rw [ectr_u14]; exact hD
                refine lv_aload_n hx hb dX0_seek_74 rfl (lv_at hl 0 rfl) ?_
                refine lv_iload_n hx hb dX0_seek_75 rfl (lv_at hl 1 rfl) ?_
                refine lv_iconst (v := 1) hx hb dX0_seek_76 (by decide) ?_
                refine lv_iadd hx hb dX0_seek_77 ?_
                have f15 : (fi + 1).toInt = (fi.toInt) + (1) := addC rfl (show (1 : Int32).toInt = 1 from rfl) (by omega) (by omega)
                refine lv_iload_n hx hb dX0_seek_78 rfl (lv_at hl 2 rfl) ?_
                refine lv_iload_n hx hb dX0_seek_79 rfl (lv_at hl 3 rfl) ?_
                refine lv_iconst (v := 1) hx hb dX0_seek_80 (by decide) ?_
                refine lv_iload hx hb dX0_seek_81 (lv_at hl 5 rfl) ?_
                refine lv_ishl hx hb dX0_seek_83 ?_
                have f16 : 1 ≤ ((1 : Int32) <<< (y46_5 &&& 31)).toInt ∧ ((1 : Int32) <<< (y46_5 &&& 31)).toInt ≤ 32 := shl1 rfl (by omega) 5 (by omega) (by decide)
                refine lv_ior hx hb dX0_seek_84 ?_
                refine lv_iload hx hb dX0_seek_85 (lv_at hl 4 rfl) ?_
                refine lv_aload_n hx hb dX0_seek_87 rfl (lv_at hl 0 rfl) ?_
                refine lv_iload_n hx hb dX0_seek_88 rfl (lv_at hl 1 rfl) ?_
                refine rdV (As := [.int fi]) (rest := [.int ha, .int (us ||| ((1 : Int32) <<< (y46_5 &&& 31))), .int n, .int (fi + 1), .ref (a 28)]) ⟨hx, hb, hml, hown, hts⟩ (k_X0_harmOf l dC dI cI cZ cQ a ali thi ctr_u14 cbe_46 har_46 mar tol fi r_thi rctr_u14 r_mar r_tol (by omega) (by omega)) (cwV 1 hts gX0_seek_X0_harmOf rfl rfl rfl (by decide +kernel) ⟨Nat.le_of_ble_eq_true rfl, Nat.le_of_ble_eq_true rfl⟩) hP hK hN [0, 1, 2, 3, 4, 5, 6, 7] rfl 0 0 rfl rfl rfl hl.1 rfl (Nat.le_of_ble_eq_true rfl) dX0_seek_89 ⟨Nat.le_of_ble_eq_true rfl, Nat.le_of_ble_eq_true rfl⟩ (fun r17 h18 => ?_)
                have h18 : True := h18
                refine lv_iadd hx hb dX0_seek_92 ?_
                refine wvV (As := [.int (fi + 1), .int n, .int (us ||| ((1 : Int32) <<< (y46_5 &&& 31))), .int (ha + r17)]) (rest := []) (wr := []) (w2 := (fun u : US => (wCod cI cZ cQ a ali thi (u.1 0) (u.1 1) (u.1 2 0) mar tol))) ⟨hx, hb, hml, hown, hts⟩ (k_X0_seek_4 l dC dI cI cZ cQ a ali thi ctr_u14 cbe_46 har_46 mar tol _ (fi + 1) n (us ||| ((1 : Int32) <<< (y46_5 &&& 31))) (ha + r17) r_thi rctr_u14 r_mar r_tol (by omega) (by omega) (by omega) (by omega)) (cwV 4 hts gX0_seek_X0_seek rfl rfl rfl (by decide +kernel) ⟨Nat.le_of_ble_eq_true rfl, Nat.le_of_ble_eq_true rfl⟩) hP hD hS hA hK hN [0, 1, 2, 3, 4, 5, 6, 7] [] [0, 1, 2, 3, 4, 5, 6, 7] rfl rfl (by decide) (by decide) (by decide) (fun _ => rfl) (by decide) 0 0 rfl rfl rfl hl.1 rfl (Nat.le_of_ble_eq_true rfl) dX0_seek_93 ⟨Nat.le_of_ble_eq_true rfl, Nat.le_of_ble_eq_true rfl⟩ (fun u21 H locs h20 hP hD hS => ?_)
                obtain ⟨ctr_c22, ectr_c22⟩ : ∃ f : Nat → Int32, f = (u21.1 0) := ⟨_, rfl⟩
                obtain ⟨cbe_c23, ecbe_c23⟩ : ∃ f : Nat → Int32, f = (u21.1 1) := ⟨_, rfl⟩
                obtain ⟨har_c24, ehar_c24⟩ : ∃ f : Int32, f = (u21.1 2 0) := ⟨_, rfl⟩
                have hP : va_P (dC, dI) vwCl (wCod cI cZ cQ a ali thi ctr_c22 cbe_c23 har_c24 mar tol) H := by rw [ectr_c22, ecbe_c23, ehar_c24]; exact hP
                have hD : va_D A (wCod cI cZ cQ a ali thi ctr_c22 cbe_c23 har_c24 mar tol) := by rw [ectr_c22, ecbe_c23, ehar_c24]; exact hD
                have h20 : (rg 6 (0) (23) ctr_c22) := by (try rw [ectr_c22]); (try rw [ecbe_c23]); (try rw [ehar_c24]); exact h20
                have h20_0 := h20
                obtain ⟨z25, ez25⟩ : ∃ y : Int32, y = y46_5 + 1 := ⟨_, rfl⟩
                have iz25 : z25.toInt = y46_5.toInt + 1 := by rw [ez25]; exact addC rfl rfl (by omega) (by omega)
                refine lv_iinc (v := z25) (lv' := [(5, .int z25), (0, .ref (a 28)), (1, .int fi), (2, .int n), (3, .int us), (4, .int ha)]) hx hb dX0_seek_96 hl (k := 5) rfl (by rw [ez25]; rfl) (by decide) rfl (fun ls hl => ?_)
                refine lv_goto (tgt := 46) hx hb dX0_seek_99 (by decide) ?_
                exact ih46 z25 ctr_c22 cbe_c23 har_c24 _ _ _ h20_0 (by omega) (by omega) (by omega) hP hD hS (lv_sub hl [1, 2, 3, 4, 5, 0] rfl)
        have kc26 : (0 : Int32).toInt = 0 := rfl
        exact L46 _ 0 ctr cbe har _ _ _ r_ctr (by omega) (by omega) (Nat.lt_succ_self _) hP hD hS (lv_sub hl [1, 2, 3, 4, 5, 0] rfl)
      · have dc4 : 6 ≤ fi.toInt := nltC rfl (show (6 : Int32).toInt = 6 from rfl) c4
        exfalso
        omega
  · have dc1 : har.toInt ≤ ha.toInt := nltC rfl rfl c1
    exact W.vret hx hb hr (fun t ht hW => ⟨⟨(uS [ctr, cbe, (fun _ => har)] 0 (fun _ => 0)), rfl, r_ctr, by rw [ht]; exact hP, hD⟩, hS.F ht⟩) hS.2.2 dX0_seek_9
set_option maxHeartbeats 4000000 in
set_option maxRecDepth 100000 in
theorem k_X0_seek_6 (l : Launch) (dC : Nat → ClassId) (dI : Nat → Nat → Nat) (cI cZ cQ : ClassId) (a : Nat → Nat) (ali : Nat → Int32) (thi : Nat → Int32) (ctr : Nat → Int32) (cbe : Nat → Int32) (har : Int32) (mar : Nat → Int32) (tol : Nat → Int32) (sz : Nat) (fi : Int32) (n : Int32) (us : Int32) (ha : Int32) (r_thi : rg 8 (0) (23) thi) (r_ctr : rg 6 (0) (23) ctr) (r_mar : rg 24 (0) (255) mar) (r_tol : rg 8 (0) (23) tol) (q0 : 0 ≤ fi.toInt) (q1 : fi.toInt ≤ 6) (q2 : 2 ≤ n.toInt) (q3 : n.toInt ≤ 6) : KV l yX0_seek wsX0_seek { frames := 9, cells := 0, slots := 0, locals := 215 } (dC, dI) (TY cI cZ cQ) (wCod cI cZ cQ a ali thi ctr cbe har mar tol) [.ref (a 28), .int fi, .int n, .int us, .int ha] sz 0 0 (fun (u : US) => (rg 6 (0) (23) (u.1 0))) (fun u : US => (wCod cI cZ cQ a ali thi (u.1 0) (u.1 1) (u.1 2 0) mar tol)) := by
  refine Met.ofW (cc := cX0_seek) (maxL := 6) (ret := none) (by decide) rfl ?_
  intro p e s m args below meth c s₁ B hml hv
  obtain ⟨rfl, hsz, hP, hK, hD0, hN⟩ := hv
  have hx := B.exec
  have hb := B.bytes
  have hr := B.returns
  have hts := atoms_spec (ws := wsX0_seek) B.pre
  have hown : s.vm.findClass RX0 = some m.cls := findClass_of_methodNamed B.named
  have hlocks := B.notSynchronized
  have lf34 := hts (.fieldLink RX0 34 "PalaceOfRooms$Codes" "bestHarm" "I") (List.mem_cons_of_mem _ (List.mem_append_left _ (List.mem_append_left _ (List.mem_append_left _ (List.mem_of_getElem? (i := 0) rfl)))))
  have inX0 : ∀ w ∈ wsX00, w ∈ wsX0_seek := fun w h => List.mem_cons_of_mem _ (List.mem_append_left _ (List.mem_append_right _ h))
  have lf18 := hts (.fieldLink RX0 18 "PalaceOfRooms$Codes" "trial" "[I") (List.mem_cons_of_mem _ (List.mem_append_left _ (List.mem_append_left _ (List.mem_append_left _ (List.mem_of_getElem? (i := 1) rfl)))))
  have lf21 := hts (.fieldLink RX0 21 "PalaceOfRooms$Codes" "best" "[I") (List.mem_cons_of_mem _ (List.mem_append_left _ (List.mem_append_left _ (List.mem_append_left _ (List.mem_of_getElem? (i := 2) rfl)))))
  have lf15 := hts (.fieldLink RX0 15 "PalaceOfRooms$Codes" "things" "[I") (List.mem_cons_of_mem _ (List.mem_append_left _ (List.mem_append_left _ (List.mem_append_left _ (List.mem_of_getElem? (i := 7) rfl)))))
  subst hsz
  have hD := hD0.self (sz := s.heap.size)
  generalize hAe : va_A (wCod cI cZ cQ a ali thi ctr cbe har mar tol) s.heap.size = A at hD ⊢
  have hA : ∀ q : Nat, s.heap.size ≤ q → A q := fun q h => by rw [← hAe]; exact Or.inr h
  have hS : va_S A s.heap s.heap [] := va_S.rf
  have hl := lv_entry ([.ref (a 28), .int fi, .int n, .int us, .int ha]) (n := 6) (Nat.le_of_ble_eq_true rfl)
  rw [lg_entry_eq]
  generalize (lg_sl ([.ref (a 28), .int fi, .int n, .int us, .int ha]) ++ List.replicate (6 - (lg_sl ([.ref (a 28), .int fi, .int n, .int us, .int ha])).length) Slot.unset).toArray = ls at hl ⊢
  have hl : lv_has ls 6 [(0, .ref (a 28)), (1, .int fi), (2, .int n), (3, .int us), (4, .int ha)] := hl
  refine lv_iload hx hb dX0_seek_0 (lv_at hl 4 rfl) ?_
  refine lv_aload_n hx hb dX0_seek_2 rfl (lv_at hl 0 rfl) ?_
  refine va_get (D := (dC, dI)) (ci := 0) (v := .int har) (C := RX0) (T := TX0) (N := 6) hx hb hts inX0 hown hK hP 0 rfl rfl 5 (by decide) lf34 (fun _ h9 => h9) rfl dX0_seek_3 ?_
  refine lv_icmp_lt (tgt := 10) hx hb dX0_seek_6 (by decide) (fun c1 => ?_) (fun c1 => ?_)
  · have dc1 : ha.toInt < har.toInt := ltC rfl rfl c1
    refine lv_iload_n hx hb dX0_seek_10 rfl (lv_at hl 1 rfl) ?_
    refine lv_iload_n hx hb dX0_seek_11 rfl (lv_at hl 2 rfl) ?_
    refine lv_icmp_ge (tgt := 21) hx hb dX0_seek_12 (by decide) (fun c2 => ?_) (fun c2 => ?_)
    · have dc2 : n.toInt ≤ fi.toInt := leC rfl rfl c2
      refine lv_aload_n hx hb dX0_seek_21 rfl (lv_at hl 0 rfl) ?_
      refine lv_iload hx hb dX0_seek_22 (lv_at hl 4 rfl) ?_
      refine va_put (D := (dC, dI)) (ci := 0) (v := .int ha) (ty := .int) (C := RX0) (T := TX0) (N := 6) hx hb hts inX0 tyX0 tyX0_ok nmX0 hown hK hP hD hS 0 rfl rfl 5 (by decide) lf34 (fun _ h9 => h9) rfl (by decide +kernel) rfl rfl (Nat.le_of_ble_eq_true rfl) dX0_seek_24 (fun H locs hP hD hS => ?_)
      have hP : va_P (dC, dI) vwCl (wCod cI cZ cQ a ali thi ctr cbe ha mar tol) H := hP
      have hD : va_D A (wCod cI cZ cQ a ali thi ctr cbe ha mar tol) := hD
      refine lv_aload_n hx hb dX0_seek_27 rfl (lv_at hl 0 rfl) ?_
      refine va_get (D := (dC, dI)) (ci := 0) (v := .ref (a 31)) (C := RX0) (T := TX0) (N := 6) hx hb hts inX0 hown hK hP 0 rfl rfl 3 (by decide) lf18 (fun _ h9 => h9) rfl dX0_seek_28 ?_
      refine lv_iconst (v := 0) hx hb dX0_seek_31 (by decide) ?_
      refine lv_aload_n hx hb dX0_seek_32 rfl (lv_at hl 0 rfl) ?_
      refine va_get (D := (dC, dI)) (ci := 0) (v := .ref (a 32)) (C := RX0) (T := TX0) (N := 6) hx hb hts inX0 hown hK hP 0 rfl rfl 4 (by decide) lf21 (fun _ h9 => h9) rfl dX0_seek_33 ?_
      refine lv_iconst (v := 0) hx hb dX0_seek_36 (by decide) ?_
      refine lv_bipush (v := 6) hx hb dX0_seek_37 (by decide) ?_
      refine va_copyi (ty := .int) (n := 6) hx hb (by rw [hml]; exact hl.1.symm) hown (hts (.methodLink RX0 28 arraycopyName) (List.mem_cons_of_mem _ (List.mem_append_left _ (List.mem_append_left _ (List.mem_append_left _ (List.mem_of_getElem? (i := 3) rfl)))))) (hts (.native arraycopyName) (List.mem_cons_of_mem _ (List.mem_append_left _ (List.mem_append_left _ (List.mem_append_left _ (List.mem_of_getElem? (i := 4) rfl)))))) (hts (.static arraycopyName) (List.mem_cons_of_mem _ (List.mem_append_left _ (List.mem_append_left _ (List.mem_append_left _ (List.mem_of_getElem? (i := 5) rfl)))))) (hts (.initialized "java/lang/System") (List.mem_cons_of_mem _ (List.mem_append_left _ (List.mem_append_left _ (List.mem_append_left _ (List.mem_of_getElem? (i := 6) rfl)))))) hK hP hD hS 3 4 0 0 rfl rfl rfl rfl rfl (by decide) (by decide) (by decide) (by decide) (by decide) (fun _ _ => rfl) (Nat.le_of_ble_eq_true rfl) (Nat.le_of_ble_eq_true rfl) dX0_seek_39 (fun H locs hP hD hS => ?_)
      obtain ⟨cbe_u3, ecbe_u3⟩ : ∃ f : Nat → Int32, f = va_cpy ctr cbe 0 0 6 := ⟨_, rfl⟩
      have hP : va_P (dC, dI) vwCl (wCod cI cZ cQ a ali thi ctr cbe_u3 ha mar tol) H := by rw [ecbe_u3]; exact hP
      have hD : va_D A (wCod cI cZ cQ a ali thi ctr cbe_u3 ha mar tol) := by rw [ecbe_u3]; exact hD
      exact W.vret hx hb hr (fun t ht hW => ⟨⟨(uS [ctr, cbe_u3, (fun _ => ha)] 0 (fun _ => 0)), rfl, r_ctr, by rw [ht]; exact hP, hD⟩, hS.F ht⟩) hS.2.2 dX0_seek_42
    · have dc2 : fi.toInt < n.toInt := nleC rfl rfl c2
      refine lv_iload_n hx hb dX0_seek_15 rfl (lv_at hl 1 rfl) ?_
      refine lv_bipush (v := 6) hx hb dX0_seek_16 (by decide) ?_
      refine lv_icmp_lt (tgt := 43) hx hb dX0_seek_18 (by decide) (fun c4 => ?_) (fun c4 => ?_)
      · have dc4 : fi.toInt < 6 := ltC rfl (show (6 : Int32).toInt = 6 from rfl) c4
        refine lv_iconst (v := 0) hx hb dX0_seek_43 (by decide) ?_
        refine lv_istore (lv' := [(5, .int 0), (0, .ref (a 28)), (1, .int fi), (2, .int n), (3, .int us), (4, .int ha)]) hx hb dX0_seek_44 hl (by decide) rfl (fun ls hl => ?_)
        have L46 : ∀ (nn : Nat) (y46_5 : Int32) (ctr_46 : Nat → Int32) (cbe_46 : Nat → Int32) (har_46 : Int32) (H : Heap) (locs : List Loc) (ls : Array Slot), (rg 6 (0) (23) ctr_46) → (0 ≤ (y46_5.toInt)) → ((y46_5.toInt) ≤ 6) → (6 - (y46_5.toInt)).toNat < nn → va_P (dC, dI) vwCl (wCod cI cZ cQ a ali thi ctr_46 cbe_46 har_46 mar tol) H → va_D A (wCod cI cZ cQ a ali thi ctr_46 cbe_46 har_46 mar tol) → va_S A s.heap H locs → lv_has ls 6 [(0, .ref (a 28)), (1, .int fi), (2, .int n), (3, .int us), (4, .int ha), (5, .int y46_5)] → W p l e (headSpec wsX0_seek { frames := 9, cells := 0, slots := 0, locals := 215 }).room s m ([.ref (a 28), .int fi, .int n, .int us, .int ha] : List Value).toArray below meth c H locs 0 0 (MQ below (va_Qv (fun (u : US) => (rg 6 (0) (23) (u.1 0))) (Bw (dC, dI) A (fun u : US => (wCod cI cZ cQ a ali thi (u.1 0) (u.1 1) (u.1 2 0) mar tol))) A) ([.ref (a 28), .int fi, .int n, .int us, .int ha] : List Value).toArray s 0 0 A) (F0 m 46 ls []) := by
          intro nn
          induction nn with
          | zero =>
            intro y46_5 ctr_46 cbe_46 har_46 H locs ls r_ctr_46 i46_0 i46_1 hm
            exact absurd hm (Nat.not_lt_zero _)
          | succ nn ih46 =>
            intro y46_5 ctr_46 cbe_46 har_46 H locs ls r_ctr_46 i46_0 i46_1 hm hP hD hS hl
            refine lv_iload hx hb dX0_seek_46 (lv_at hl 5 rfl) ?_
            refine lv_iload_n hx hb dX0_seek_48 rfl (lv_at hl 2 rfl) ?_
            refine lv_icmp_ge (tgt := 102) hx hb dX0_seek_49 (by decide) (fun c5 => ?_) (fun c5 => ?_)
            · have dc5 : n.toInt ≤ y46_5.toInt := leC rfl rfl c5
              exact W.vret hx hb hr (fun t ht hW => ⟨⟨(uS [ctr_46, cbe_46, (fun _ => har_46)] 0 (fun _ => 0)), rfl, r_ctr_46, by rw [ht]; exact hP, hD⟩, hS.F ht⟩) hS.2.2 dX0_seek_102
            · have dc5 : y46_5.toInt < n.toInt := nleC rfl rfl c5
              refine lv_iload_n hx hb dX0_seek_52 rfl (lv_at hl 3 rfl) ?_
              refine lv_iload hx hb dX0_seek_53 (lv_at hl 5 rfl) ?_
              refine lv_ishr hx hb dX0_seek_55 ?_
              refine lv_iconst (v := 1) hx hb dX0_seek_56 (by decide) ?_
              refine lv_iand hx hb dX0_seek_57 ?_
              have f6 := andR (a := (us >>> (y46_5 &&& 31))) (m := 1) (M := 1) rfl (by decide)
              refine lv_if_ne (tgt := 96) hx hb dX0_seek_58 (by decide) (fun c7 => ?_) (fun c7 => ?_)
              · have dc7 : ((us >>> (y46_5 &&& 31)) &&& 1).toInt ≠ 0 := neC rfl (show (0 : Int32).toInt = 0 from rfl) c7
                obtain ⟨z8, ez8⟩ : ∃ y : Int32, y = y46_5 + 1 := ⟨_, rfl⟩
                have iz8 : z8.toInt = y46_5.toInt + 1 := by rw [ez8]; exact addC rfl rfl (by omega) (by omega)
                refine lv_iinc (v := z8) (lv' := [(5, .int z8), (0, .ref (a 28)), (1, .int fi), (2, .int n), (3, .int us), (4, .int ha)]) hx hb dX0_seek_96 hl (k := 5) rfl (by rw [ez8]; rfl) (by decide) rfl (fun ls hl => ?_)
                refine lv_goto (tgt := 46) hx hb dX0_seek_99 (by decide) ?_
                exact ih46 z8 ctr_46 cbe_46 har_46 _ _ _ r_ctr_46 (by omega) (by omega) (by omega) hP hD hS (lv_sub hl [1, 2, 3, 4, 5, 0] rfl)
              · have dc7 : ((us >>> (y46_5 &&& 31)) &&& 1).toInt = 0 := eqC rfl (show (0 : Int32).toInt = 0 from rfl) c7
                refine lv_aload_n hx hb dX0_seek_61 rfl (lv_at hl 0 rfl) ?_
                refine va_get (D := (dC, dI)) (ci := 0) (v := .ref (a 31)) (C := RX0) (T := TX0) (N := 6) hx hb hts inX0 hown hK hP 0 rfl rfl 3 (by decide) lf18 (fun _ h9 => h9) rfl dX0_seek_62 ?_
                refine lv_iload_n hx hb dX0_seek_65 rfl (lv_at hl 1 rfl) ?_
                refine lv_aload_n hx hb dX0_seek_66 rfl (lv_at hl 0 rfl) ?_
                refine va_get (D := (dC, dI)) (ci := 0) (v := .ref (a 30)) (C := RX0) (T := TX0) (N := 6) hx hb hts inX0 hown hK hP 0 rfl rfl 2 (by decide) lf15 (fun _ h9 => h9) rfl dX0_seek_67 ?_
                refine lv_iload hx hb dX0_seek_70 (lv_at hl 5 rfl) ?_
                have b9 : vp_in y46_5 8 := inC rfl (by omega) (by omega)
                refine va_iald hx hb hK hP 2 0 rfl rfl b9 dX0_seek_72 ?_
                have g10 : 0 ≤ (thi y46_5.toNatClampNeg).toInt ∧ (thi y46_5.toNatClampNeg).toInt ≤ 23 := rg_at r_thi b9
                refine lv_topi (fun x11 ex11 => ?_)
                have ix11 : x11.toInt = (thi y46_5.toNatClampNeg).toInt := by rw [ex11]
                have b12 : vp_in fi 6 := inC rfl (by omega) (by omega)
                have g13 : rg 6 (0) (23) (upd ctr_46 fi.toNatClampNeg x11) := rg_upd r_ctr_46 rfl (by omega) (by omega)
                refine va_iast hx hb hK hP hD hS 3 0 rfl rfl b12 dX0_seek_73 (fun H locs hP hD hS => ?_)
                obtain ⟨ctr_u14, ectr_u14⟩ : ∃ f : Nat → Int32, f = upd ctr_46 fi.toNatClampNeg x11 := ⟨_, rfl⟩
                have rctr_u14 : rg 6 (0) (23) ctr_u14 := by rw [ectr_u14]; exact g13
                have hP : va_P (dC, dI) vwCl (wCod cI cZ cQ a ali thi ctr_u14 cbe_46 har_46 mar tol) H := by rw [ectr_u14]; exact hP
                have hD : va_D A (wCod cI cZ cQ a ali thi ctr_u14 cbe_46 har_46 mar tol) := by rw [ectr_u14]; exact hD
                refine lv_aload_n hx hb dX0_seek_74 rfl (lv_at hl 0 rfl) ?_
                refine lv_iload_n hx hb dX0_seek_75 rfl (lv_at hl 1 rfl) ?_
                refine lv_iconst (v := 1) hx hb dX0_seek_76 (by decide) ?_
                refine lv_iadd hx hb dX0_seek_77 ?_
                have f15 : (fi + 1).toInt = (fi.toInt) + (1) := addC rfl (show (1 : Int32).toInt = 1 from rfl) (by omega) (by omega)
                refine lv_iload_n hx hb dX0_seek_78 rfl (lv_at hl 2 rfl) ?_
                refine lv_iload_n hx hb dX0_seek_79 rfl (lv_at hl 3 rfl) ?_
                refine lv_iconst (v := 1) hx hb dX0_seek_80 (by decide) ?_
                refine lv_iload hx hb dX0_seek_81 (lv_at hl 5 rfl) ?_
                refine lv_ishl hx hb dX0_seek_83 ?_
                have f16 : 1 ≤ ((1 : Int32) <<< (y46_5 &&& 31)).toInt ∧ ((1 : Int32) <<< (y46_5 &&& 31)).toInt ≤ 32 := shl1 rfl (by omega) 5 (by omega) (by decide)
                refine lv_ior hx hb dX0_seek_84 ?_
                refine lv_iload hx hb dX0_seek_85 (lv_at hl 4 rfl) ?_
                refine lv_aload_n hx hb dX0_seek_87 rfl (lv_at hl 0 rfl) ?_
                refine lv_iload_n hx hb dX0_seek_88 rfl (lv_at hl 1 rfl) ?_
                refine rdV (As := [.int fi]) (rest := [.int ha, .int (us ||| ((1 : Int32) <<< (y46_5 &&& 31))), .int n, .int (fi + 1), .ref (a 28)]) ⟨hx, hb, hml, hown, hts⟩ (k_X0_harmOf l dC dI cI cZ cQ a ali thi ctr_u14 cbe_46 har_46 mar tol fi r_thi rctr_u14 r_mar r_tol (by omega) (by omega)) (cwV 1 hts gX0_seek_X0_harmOf rfl rfl rfl (by decide +kernel) ⟨Nat.le_of_ble_eq_true rfl, Nat.le_of_ble_eq_true rfl⟩) hP hK hN [0, 1, 2, 3, 4, 5, 6, 7] rfl 0 0 rfl rfl rfl hl.1 rfl (Nat.le_of_ble_eq_true rfl) dX0_seek_89 ⟨Nat.le_of_ble_eq_true rfl, Nat.le_of_ble_eq_true rfl⟩ (fun r17 h18 => ?_)
                have h18 : True := h18
                refine lv_iadd hx hb dX0_seek_92 ?_
                refine wvV (As := [.int (fi + 1), .int n, .int (us ||| ((1 : Int32) <<< (y46_5 &&& 31))), .int (ha + r17)]) (rest := []) (wr := []) (w2 := (fun u : US => (wCod cI cZ cQ a ali thi (u.1 0) (u.1 1) (u.1 2 0) mar tol))) ⟨hx, hb, hml, hown, hts⟩ (k_X0_seek_5 l dC dI cI cZ cQ a ali thi ctr_u14 cbe_46 har_46 mar tol _ (fi + 1) n (us ||| ((1 : Int32) <<< (y46_5 &&& 31))) (ha + r17) r_thi rctr_u14 r_mar r_tol (by omega) (by omega) (by omega) (by omega)) (cwV 4 hts gX0_seek_X0_seek rfl rfl rfl (by decide +kernel) ⟨Nat.le_of_ble_eq_true rfl, Nat.le_of_ble_eq_true rfl⟩) hP hD hS hA hK hN [0, 1, 2, 3, 4, 5, 6, 7] [] [0, 1, 2, 3, 4, 5, 6, 7] rfl rfl (by decide) (by decide) (by decide) (fun _ => rfl) (by decide) 0 0 rfl rfl rfl hl.1 rfl (Nat.le_of_ble_eq_true rfl) dX0_seek_93 ⟨Nat.le_of_ble_eq_true rfl, Nat.le_of_ble_eq_true rfl⟩ (fun u21 H locs h20 hP hD hS => ?_)
                obtain ⟨ctr_c22, ectr_c22⟩ : ∃ f : Nat → Int32, f = (u21.1 0) := ⟨_, rfl⟩
                obtain ⟨cbe_c23, ecbe_c23⟩ : ∃ f : Nat → Int32, f = (u21.1 1) := ⟨_, rfl⟩
                obtain ⟨har_c24, ehar_c24⟩ : ∃ f : Int32, f = (u21.1 2 0) := ⟨_, rfl⟩
                have hP : va_P (dC, dI) vwCl (wCod cI cZ cQ a ali thi ctr_c22 cbe_c23 har_c24 mar tol) H := by rw [ectr_c22, ecbe_c23, ehar_c24]; exact hP
                have hD : va_D A (wCod cI cZ cQ a ali thi ctr_c22 cbe_c23 har_c24 mar tol) := by rw [ectr_c22, ecbe_c23, ehar_c24]; exact hD
                have h20 : (rg 6 (0) (23) ctr_c22) := by (try rw [ectr_c22]); (try rw [ecbe_c23]); (try rw [ehar_c24]); exact h20
                have h20_0 := h20
                obtain ⟨z25, ez25⟩ : ∃ y : Int32, y = y46_5 + 1 := ⟨_, rfl⟩
                have iz25 : z25.toInt = y46_5.toInt + 1 := by rw [ez25]; exact addC rfl rfl (by omega) (by omega)
                refine lv_iinc (v := z25) (lv' := [(5, .int z25), (0, .ref (a 28)), (1, .int fi), (2, .int n), (3, .int us), (4, .int ha)]) hx hb dX0_seek_96 hl (k := 5) rfl (by rw [ez25]; rfl) (by decide) rfl (fun ls hl => ?_)
                refine lv_goto (tgt := 46) hx hb dX0_seek_99 (by decide) ?_
                exact ih46 z25 ctr_c22 cbe_c23 har_c24 _ _ _ h20_0 (by omega) (by omega) (by omega) hP hD hS (lv_sub hl [1, 2, 3, 4, 5, 0] rfl)
        have kc26 : (0 : Int32).toInt = 0 := rfl
        exact L46 _ 0 ctr cbe har _ _ _ r_ctr (by omega) (by omega) (Nat.lt_succ_self _) hP hD hS (lv_sub hl [1, 2, 3, 4, 5, 0] rfl)
      · have dc4 : 6 ≤ fi.toInt := nltC rfl (show (6 : Int32).toInt = 6 from rfl) c4
        exfalso
        omega
  · have dc1 : har.toInt ≤ ha.toInt := nltC rfl rfl c1
    exact W.vret hx hb hr (fun t ht hW => ⟨⟨(uS [ctr, cbe, (fun _ => har)] 0 (fun _ => 0)), rfl, r_ctr, by rw [ht]; exact hP, hD⟩, hS.F ht⟩) hS.2.2 dX0_seek_9
set_option maxHeartbeats 4000000 in
set_option maxRecDepth 100000 in
theorem k_X0_findBest (l : Launch) (dC : Nat → ClassId) (dI : Nat → Nat → Nat) (cI cZ cQ : ClassId) (a : Nat → Nat) (ali : Nat → Int32) (thi : Nat → Int32) (ctr : Nat → Int32) (cbe : Nat → Int32) (har : Int32) (mar : Nat → Int32) (tol : Nat → Int32) (sz : Nat) (n : Int32) (r_thi : rg 8 (0) (23) thi) (r_ctr : rg 6 (0) (23) ctr) (r_mar : rg 24 (0) (255) mar) (r_tol : rg 8 (0) (23) tol) (q0 : 2 ≤ n.toInt) (q1 : n.toInt ≤ 6) : KV l yX0_findBest wsX0_findBest { frames := 10, cells := 0, slots := 0, locals := 240 } (dC, dI) (TY cI cZ cQ) (wCod cI cZ cQ a ali thi ctr cbe har mar tol) [.ref (a 28), .ref (a 42), .int n] sz 0 0 (fun (u : US) => (rg 8 (0) (23) (u.1 0)) ∧ (rg 6 (0) (23) (u.1 1))) (fun u : US => (wCod cI cZ cQ a ali (u.1 0) (u.1 1) (u.1 2) (u.1 3 0) mar tol)) := by
  refine Met.ofW (cc := cX0_findBest) (maxL := 3) (ret := none) (by decide) rfl ?_
  intro p e s m args below meth c s₁ B hml hv
  obtain ⟨rfl, hsz, hP, hK, hD0, hN⟩ := hv
  have hx := B.exec
  have hb := B.bytes
  have hr := B.returns
  have hts := atoms_spec (ws := wsX0_findBest) B.pre
  have hown : s.vm.findClass RX0 = some m.cls := findClass_of_methodNamed B.named
  have hlocks := B.notSynchronized
  have lf15 := hts (.fieldLink RX0 15 "PalaceOfRooms$Codes" "things" "[I") (List.mem_cons_of_mem _ (List.mem_append_left _ (List.mem_append_left _ (List.mem_append_left _ (List.mem_of_getElem? (i := 0) rfl)))))
  have inX0 : ∀ w ∈ wsX00, w ∈ wsX0_findBest := fun w h => List.mem_cons_of_mem _ (List.mem_append_left _ (List.mem_append_right _ h))
  have lf34 := hts (.fieldLink RX0 34 "PalaceOfRooms$Codes" "bestHarm" "I") (List.mem_cons_of_mem _ (List.mem_append_left _ (List.mem_append_left _ (List.mem_append_left _ (List.mem_of_getElem? (i := 5) rfl)))))
  subst hsz
  have hD := hD0.self (sz := s.heap.size)
  generalize hAe : va_A (wCod cI cZ cQ a ali thi ctr cbe har mar tol) s.heap.size = A at hD ⊢
  have hA : ∀ q : Nat, s.heap.size ≤ q → A q := fun q h => by rw [← hAe]; exact Or.inr h
  have hS : va_S A s.heap s.heap [] := va_S.rf
  have hl := lv_entry ([.ref (a 28), .ref (a 42), .int n]) (n := 3) (Nat.le_of_ble_eq_true rfl)
  rw [lg_entry_eq]
  generalize (lg_sl ([.ref (a 28), .ref (a 42), .int n]) ++ List.replicate (3 - (lg_sl ([.ref (a 28), .ref (a 42), .int n])).length) Slot.unset).toArray = ls at hl ⊢
  have hl : lv_has ls 3 [(0, .ref (a 28)), (1, .ref (a 42)), (2, .int n)] := hl
  refine lv_aload_n hx hb dX0_findBest_0 rfl (lv_at hl 1 rfl) ?_
  refine lv_iconst (v := 0) hx hb dX0_findBest_1 (by decide) ?_
  refine lv_aload_n hx hb dX0_findBest_2 rfl (lv_at hl 0 rfl) ?_
  refine va_get (D := (dC, dI)) (ci := 0) (v := .ref (a 30)) (C := RX0) (T := TX0) (N := 6) hx hb hts inX0 hown hK hP 0 rfl rfl 2 (by decide) lf15 (fun _ h9 => h9) rfl dX0_findBest_3 ?_
  refine lv_iconst (v := 0) hx hb dX0_findBest_6 (by decide) ?_
  refine lv_bipush (v := 8) hx hb dX0_findBest_7 (by decide) ?_
  refine va_copyi (ty := .int) (n := 8) hx hb (by rw [hml]; exact hl.1.symm) hown (hts (.methodLink RX0 28 arraycopyName) (List.mem_cons_of_mem _ (List.mem_append_left _ (List.mem_append_left _ (List.mem_append_left _ (List.mem_of_getElem? (i := 1) rfl)))))) (hts (.native arraycopyName) (List.mem_cons_of_mem _ (List.mem_append_left _ (List.mem_append_left _ (List.mem_append_left _ (List.mem_of_getElem? (i := 2) rfl)))))) (hts (.static arraycopyName) (List.mem_cons_of_mem _ (List.mem_append_left _ (List.mem_append_left _ (List.mem_append_left _ (List.mem_of_getElem? (i := 3) rfl)))))) (hts (.initialized "java/lang/System") (List.mem_cons_of_mem _ (List.mem_append_left _ (List.mem_append_left _ (List.mem_append_left _ (List.mem_of_getElem? (i := 4) rfl)))))) hK hP hD hS 7 2 0 0 rfl rfl rfl rfl rfl (by decide) (by decide) (by decide) (by decide) (by decide) (fun _ _ => rfl) (Nat.le_of_ble_eq_true rfl) (Nat.le_of_ble_eq_true rfl) dX0_findBest_9 (fun H locs hP hD hS => ?_)
  have g1 : rg 8 (0) (23) (va_cpy tol thi 0 0 8) := rg_cpy r_tol r_thi (by decide)
  obtain ⟨thi_u2, ethi_u2⟩ : ∃ f : Nat → Int32, f = va_cpy tol thi 0 0 8 := ⟨_, rfl⟩
  have rthi_u2 : rg 8 (0) (23) thi_u2 := by rw [ethi_u2]; exact g1
  have hP : va_P (dC, dI) vwCl (wCod cI cZ cQ a ali thi_u2 ctr cbe har mar tol) H := by rw [ethi_u2]; exact hP
  have hD : va_D A (wCod cI cZ cQ a ali thi_u2 ctr cbe har mar tol) := by rw [ethi_u2]; exact hD
  refine lv_aload_n hx hb dX0_findBest_12 rfl (lv_at hl 0 rfl) ?_
  refine lv_sipush (v := 2592) hx hb dX0_findBest_13 (by decide) ?_
  refine va_put (D := (dC, dI)) (ci := 0) (v := .int 2592) (ty := .int) (C := RX0) (T := TX0) (N := 6) hx hb hts inX0 tyX0 tyX0_ok nmX0 hown hK hP hD hS 0 rfl rfl 5 (by decide) lf34 (fun _ h9 => h9) rfl (by decide +kernel) rfl rfl (Nat.le_of_ble_eq_true rfl) dX0_findBest_16 (fun H locs hP hD hS => ?_)
  have hP : va_P (dC, dI) vwCl (wCod cI cZ cQ a ali thi_u2 ctr cbe 2592 mar tol) H := hP
  have hD : va_D A (wCod cI cZ cQ a ali thi_u2 ctr cbe 2592 mar tol) := hD
  refine lv_aload_n hx hb dX0_findBest_19 rfl (lv_at hl 0 rfl) ?_
  refine lv_iconst (v := 0) hx hb dX0_findBest_20 (by decide) ?_
  refine lv_iload_n hx hb dX0_findBest_21 rfl (lv_at hl 2 rfl) ?_
  refine lv_iconst (v := 0) hx hb dX0_findBest_22 (by decide) ?_
  refine lv_iconst (v := 0) hx hb dX0_findBest_23 (by decide) ?_
  have kc0 : (0 : Int32).toInt = 0 := rfl
  refine wvV (As := [.int 0, .int n, .int 0, .int 0]) (rest := []) (wr := []) (w2 := (fun u : US => (wCod cI cZ cQ a ali thi_u2 (u.1 0) (u.1 1) (u.1 2 0) mar tol))) ⟨hx, hb, hml, hown, hts⟩ (k_X0_seek_6 l dC dI cI cZ cQ a ali thi_u2 ctr cbe 2592 mar tol _ (0 : Int32) n (0 : Int32) (0 : Int32) rthi_u2 r_ctr r_mar r_tol (by omega) (by omega) (by omega) (by omega)) (cwV 4 hts gX0_findBest_X0_seek rfl rfl rfl (by decide +kernel) ⟨Nat.le_of_ble_eq_true rfl, Nat.le_of_ble_eq_true rfl⟩) hP hD hS hA hK hN [0, 1, 2, 3, 4, 5, 6, 7] [] [0, 1, 2, 3, 4, 5, 6, 7] rfl rfl (by decide) (by decide) (by decide) (fun _ => rfl) (by decide) 0 0 rfl rfl rfl hl.1 rfl (Nat.le_of_ble_eq_true rfl) dX0_findBest_24 ⟨Nat.le_of_ble_eq_true rfl, Nat.le_of_ble_eq_true rfl⟩ (fun u5 H locs h4 hP hD hS => ?_)
  obtain ⟨ctr_c6, ectr_c6⟩ : ∃ f : Nat → Int32, f = (u5.1 0) := ⟨_, rfl⟩
  obtain ⟨cbe_c7, ecbe_c7⟩ : ∃ f : Nat → Int32, f = (u5.1 1) := ⟨_, rfl⟩
  obtain ⟨har_c8, ehar_c8⟩ : ∃ f : Int32, f = (u5.1 2 0) := ⟨_, rfl⟩
  have hP : va_P (dC, dI) vwCl (wCod cI cZ cQ a ali thi_u2 ctr_c6 cbe_c7 har_c8 mar tol) H := by rw [ectr_c6, ecbe_c7, ehar_c8]; exact hP
  have hD : va_D A (wCod cI cZ cQ a ali thi_u2 ctr_c6 cbe_c7 har_c8 mar tol) := by rw [ectr_c6, ecbe_c7, ehar_c8]; exact hD
  have h4 : (rg 6 (0) (23) ctr_c6) := by (try rw [ectr_c6]); (try rw [ecbe_c7]); (try rw [ehar_c8]); exact h4
  have h4_0 := h4
  exact W.vret hx hb hr (fun t ht hW => ⟨⟨(uS [thi_u2, ctr_c6, cbe_c7, (fun _ => har_c8)] 0 (fun _ => 0)), rfl, ⟨rthi_u2, h4_0⟩, by rw [ht]; exact hP, hD⟩, hS.F ht⟩) hS.2.2 dX0_findBest_27
