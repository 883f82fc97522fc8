section
set_option maxRecDepth 20000 in
theorem dqX0_init_p090 : dz_rn 0 (cX0_init.data.toList.drop 0) [(0, 4), (3, 5), (0, 4), (2, 0)] = some [(0, .aload_n 0, 1), (1, .invokespecial 3, 3), (4, .aload_n 0, 1), (5, .bipush 100, 2)] := by decide +kernel
theorem dX0_init_0 : decode cX0_init 0 = .ok (.aload_n 0, 1) := dz_at dqX0_init_p090 0 rfl
theorem dX0_init_1 : decode cX0_init 1 = .ok (.invokespecial 3, 3) := dz_at dqX0_init_p090 1 rfl
theorem dX0_init_4 : decode cX0_init 4 = .ok (.aload_n 0, 1) := dz_at dqX0_init_p090 2 rfl
theorem dX0_init_5 : decode cX0_init 5 = .ok (.bipush 100, 2) := dz_at dqX0_init_p090 3 rfl
theorem dX0_init_7 : decode cX0_init 7 = .ok (.newarray .int, 2) := by decide +kernel
set_option maxRecDepth 20000 in
theorem dqX0_init_p091 : dz_rn 9 (cX0_init.data.toList.drop 9) [(3, 3), (0, 4), (2, 0)] = some [(9, .putfield 9, 3), (12, .aload_n 0, 1), (13, .bipush 8, 2)] := by decide +kernel
theorem dX0_init_9 : decode cX0_init 9 = .ok (.putfield 9, 3) := dz_at dqX0_init_p091 0 rfl
theorem dX0_init_12 : decode cX0_init 12 = .ok (.aload_n 0, 1) := dz_at dqX0_init_p091 1 rfl
theorem dX0_init_13 : decode cX0_init 13 = .ok (.bipush 8, 2) := dz_at dqX0_init_p091 2 rfl
theorem dX0_init_15 : decode cX0_init 15 = .ok (.newarray .int, 2) := by decide +kernel
set_option maxRecDepth 20000 in
theorem dqX0_init_p092 : dz_rn 17 (cX0_init.data.toList.drop 17) [(3, 3), (0, 4), (2, 0)] = some [(17, .putfield 15, 3), (20, .aload_n 0, 1), (21, .bipush 6, 2)] := by decide +kernel
theorem dX0_init_17 : decode cX0_init 17 = .ok (.putfield 15, 3) := dz_at dqX0_init_p092 0 rfl
theorem dX0_init_20 : decode cX0_init 20 = .ok (.aload_n 0, 1) := dz_at dqX0_init_p092 1 rfl
theorem dX0_init_21 : decode cX0_init 21 = .ok (.bipush 6, 2) := dz_at dqX0_init_p092 2 rfl
theorem dX0_init_23 : decode cX0_init 23 = .ok (.newarray .int, 2) := by decide +kernel
set_option maxRecDepth 20000 in
theorem dqX0_init_p093 : dz_rn 25 (cX0_init.data.toList.drop 25) [(3, 3), (0, 4), (2, 0)] = some [(25, .putfield 18, 3), (28, .aload_n 0, 1), (29, .bipush 6, 2)] := by decide +kernel
theorem dX0_init_25 : decode cX0_init 25 = .ok (.putfield 18, 3) := dz_at dqX0_init_p093 0 rfl
theorem dX0_init_28 : decode cX0_init 28 = .ok (.aload_n 0, 1) := dz_at dqX0_init_p093 1 rfl
theorem dX0_init_29 : decode cX0_init 29 = .ok (.bipush 6, 2) := dz_at dqX0_init_p093 2 rfl
theorem dX0_init_31 : decode cX0_init 31 = .ok (.newarray .int, 2) := by decide +kernel
set_option maxRecDepth 20000 in
theorem dqX0_init_p094 : dz_rn 33 (cX0_init.data.toList.drop 33) [(3, 3), (0, 4), (0, 5), (3, 3), (0, 25)] = some [(33, .putfield 21, 3), (36, .aload_n 0, 1), (37, .aload_n 1, 1), (38, .putfield 24, 3), (41, .return_, 1)] := by decide +kernel
theorem dX0_init_33 : decode cX0_init 33 = .ok (.putfield 21, 3) := dz_at dqX0_init_p094 0 rfl
theorem dX0_init_36 : decode cX0_init 36 = .ok (.aload_n 0, 1) := dz_at dqX0_init_p094 1 rfl
theorem dX0_init_37 : decode cX0_init 37 = .ok (.aload_n 1, 1) := dz_at dqX0_init_p094 2 rfl
theorem dX0_init_38 : decode cX0_init 38 = .ok (.putfield 24, 3) := dz_at dqX0_init_p094 3 rfl
theorem dX0_init_41 : decode cX0_init 41 = .ok (.return_, 1) := dz_at dqX0_init_p094 4 rfl
set_option maxRecDepth 20000 in
theorem dqX0_exchangeAlike_p090 : dz_rn 0 (cX0_exchangeAlike.data.toList.drop 0) [(0, 4), (3, 0), (0, 1), (2, 0), (0, 23), (0, 2), (0, 11), (0, 10), (1, 1), (0, 4), (3, 0), (0, 1), (2, 0), (0, 23)] = some [(0, .aload_n 0, 1), (1, .getfield 9, 3), (4, .iload_n 1, 1), (5, .bipush 10, 2), (7, .imul, 1), (8, .iload_n 2, 1), (9, .iadd, 1), (10, .iaload, 1), (11, .istore 4, 2), (13, .aload_n 0, 1), (14, .getfield 9, 3), (17, .iload_n 1, 1), (18, .bipush 10, 2), (20, .imul, 1)] := by decide +kernel
theorem dX0_exchangeAlike_0 : decode cX0_exchangeAlike 0 = .ok (.aload_n 0, 1) := dz_at dqX0_exchangeAlike_p090 0 rfl
theorem dX0_exchangeAlike_1 : decode cX0_exchangeAlike 1 = .ok (.getfield 9, 3) := dz_at dqX0_exchangeAlike_p090 1 rfl
theorem dX0_exchangeAlike_4 : decode cX0_exchangeAlike 4 = .ok (.iload_n 1, 1) := dz_at dqX0_exchangeAlike_p090 2 rfl
theorem dX0_exchangeAlike_5 : decode cX0_exchangeAlike 5 = .ok (.bipush 10, 2) := dz_at dqX0_exchangeAlike_p090 3 rfl
theorem dX0_exchangeAlike_7 : decode cX0_exchangeAlike 7 = .ok (.imul, 1) := dz_at dqX0_exchangeAlike_p090 4 rfl
theorem dX0_exchangeAlike_8 : decode cX0_exchangeAlike 8 = .ok (.iload_n 2, 1) := dz_at dqX0_exchangeAlike_p090 5 rfl
theorem dX0_exchangeAlike_9 : decode cX0_exchangeAlike 9 = .ok (.iadd, 1) := dz_at dqX0_exchangeAlike_p090 6 rfl
theorem dX0_exchangeAlike_10 : decode cX0_exchangeAlike 10 = .ok (.iaload, 1) := dz_at dqX0_exchangeAlike_p090 7 rfl
theorem dX0_exchangeAlike_11 : decode cX0_exchangeAlike 11 = .ok (.istore 4, 2) := dz_at dqX0_exchangeAlike_p090 8 rfl
theorem dX0_exchangeAlike_13 : decode cX0_exchangeAlike 13 = .ok (.aload_n 0, 1) := dz_at dqX0_exchangeAlike_p090 9 rfl
theorem dX0_exchangeAlike_14 : decode cX0_exchangeAlike 14 = .ok (.getfield 9, 3) := dz_at dqX0_exchangeAlike_p090 10 rfl
theorem dX0_exchangeAlike_17 : decode cX0_exchangeAlike 17 = .ok (.iload_n 1, 1) := dz_at dqX0_exchangeAlike_p090 11 rfl
theorem dX0_exchangeAlike_18 : decode cX0_exchangeAlike 18 = .ok (.bipush 10, 2) := dz_at dqX0_exchangeAlike_p090 12 rfl
theorem dX0_exchangeAlike_20 : decode cX0_exchangeAlike 20 = .ok (.imul, 1) := dz_at dqX0_exchangeAlike_p090 13 rfl
set_option maxRecDepth 20000 in
theorem dqX0_exchangeAlike_p091 : dz_rn 21 (cX0_exchangeAlike.data.toList.drop 21) [(0, 2), (0, 11), (0, 3), (0, 22), (0, 4), (3, 0), (0, 2), (2, 0), (0, 23), (0, 1), (0, 11), (0, 3), (0, 22), (1, 0)] = some [(21, .iload_n 2, 1), (22, .iadd, 1), (23, .iload_n 3, 1), (24, .iastore, 1), (25, .aload_n 0, 1), (26, .getfield 9, 3), (29, .iload_n 2, 1), (30, .bipush 10, 2), (32, .imul, 1), (33, .iload_n 1, 1), (34, .iadd, 1), (35, .iload_n 3, 1), (36, .iastore, 1), (37, .iload 4, 2)] := by decide +kernel
theorem dX0_exchangeAlike_21 : decode cX0_exchangeAlike 21 = .ok (.iload_n 2, 1) := dz_at dqX0_exchangeAlike_p091 0 rfl
theorem dX0_exchangeAlike_22 : decode cX0_exchangeAlike 22 = .ok (.iadd, 1) := dz_at dqX0_exchangeAlike_p091 1 rfl
theorem dX0_exchangeAlike_23 : decode cX0_exchangeAlike 23 = .ok (.iload_n 3, 1) := dz_at dqX0_exchangeAlike_p091 2 rfl
theorem dX0_exchangeAlike_24 : decode cX0_exchangeAlike 24 = .ok (.iastore, 1) := dz_at dqX0_exchangeAlike_p091 3 rfl
theorem dX0_exchangeAlike_25 : decode cX0_exchangeAlike 25 = .ok (.aload_n 0, 1) := dz_at dqX0_exchangeAlike_p091 4 rfl
theorem dX0_exchangeAlike_26 : decode cX0_exchangeAlike 26 = .ok (.getfield 9, 3) := dz_at dqX0_exchangeAlike_p091 5 rfl
theorem dX0_exchangeAlike_29 : decode cX0_exchangeAlike 29 = .ok (.iload_n 2, 1) := dz_at dqX0_exchangeAlike_p091 6 rfl
theorem dX0_exchangeAlike_30 : decode cX0_exchangeAlike 30 = .ok (.bipush 10, 2) := dz_at dqX0_exchangeAlike_p091 7 rfl
theorem dX0_exchangeAlike_32 : decode cX0_exchangeAlike 32 = .ok (.imul, 1) := dz_at dqX0_exchangeAlike_p091 8 rfl
theorem dX0_exchangeAlike_33 : decode cX0_exchangeAlike 33 = .ok (.iload_n 1, 1) := dz_at dqX0_exchangeAlike_p091 9 rfl
theorem dX0_exchangeAlike_34 : decode cX0_exchangeAlike 34 = .ok (.iadd, 1) := dz_at dqX0_exchangeAlike_p091 10 rfl
theorem dX0_exchangeAlike_35 : decode cX0_exchangeAlike 35 = .ok (.iload_n 3, 1) := dz_at dqX0_exchangeAlike_p091 11 rfl
theorem dX0_exchangeAlike_36 : decode cX0_exchangeAlike 36 = .ok (.iastore, 1) := dz_at dqX0_exchangeAlike_p091 12 rfl
theorem dX0_exchangeAlike_37 : decode cX0_exchangeAlike 37 = .ok (.iload 4, 2) := dz_at dqX0_exchangeAlike_p091 13 rfl
theorem dX0_exchangeAlike_39 : decode cX0_exchangeAlike 39 = .ok (.ireturn, 1) := by decide +kernel
set_option maxRecDepth 20000 in
theorem ggX0_findBest_X0_seek : GoodIn wsX0_findBest wsX0_seek := goodIn_r _ [11, 6, 12, 13, 2, 3, 4, 5, 1, 14, 15, 16, 10, 17, 18, 19, 20, 21, 22, 23, 24, 25, 26, 27, 28, 29, 30, 31, 32, 7, 8, 9, 33, 34, 35, 36, 37, 38, 39] rfl (by decide +kernel)
set_option maxRecDepth 20000 in
theorem gX0_findBest_X0_seek : GoodIn wsX0_findBest (wsV RX0 38 RX0 yX0_seek wsX0_seek) := goodIn_app (goodIn_of _ (by decide +kernel)) ggX0_findBest_X0_seek
set_option maxRecDepth 20000 in
theorem dqX0_findBest_p090 : dz_rn 0 (cX0_findBest.data.toList.drop 0) [(0, 5), (0, 8), (0, 4), (3, 0), (0, 8), (2, 0), (3, 2), (0, 4), (4, 13), (3, 3), (0, 4), (0, 8), (0, 2), (0, 8)] = some [(0, .aload_n 1, 1), (1, .iconst 0, 1), (2, .aload_n 0, 1), (3, .getfield 15, 3), (6, .iconst 0, 1), (7, .bipush 8, 2), (9, .invokestatic 28, 3), (12, .aload_n 0, 1), (13, .sipush 2592, 3), (16, .putfield 34, 3), (19, .aload_n 0, 1), (20, .iconst 0, 1), (21, .iload_n 2, 1), (22, .iconst 0, 1)] := by decide +kernel
theorem dX0_findBest_0 : decode cX0_findBest 0 = .ok (.aload_n 1, 1) := dz_at dqX0_findBest_p090 0 rfl
theorem dX0_findBest_1 : decode cX0_findBest 1 = .ok (.iconst 0, 1) := dz_at dqX0_findBest_p090 1 rfl
theorem dX0_findBest_2 : decode cX0_findBest 2 = .ok (.aload_n 0, 1) := dz_at dqX0_findBest_p090 2 rfl
theorem dX0_findBest_3 : decode cX0_findBest 3 = .ok (.getfield 15, 3) := dz_at dqX0_findBest_p090 3 rfl
theorem dX0_findBest_6 : decode cX0_findBest 6 = .ok (.iconst 0, 1) := dz_at dqX0_findBest_p090 4 rfl
theorem dX0_findBest_7 : decode cX0_findBest 7 = .ok (.bipush 8, 2) := dz_at dqX0_findBest_p090 5 rfl
theorem dX0_findBest_9 : decode cX0_findBest 9 = .ok (.invokestatic 28, 3) := dz_at dqX0_findBest_p090 6 rfl
theorem dX0_findBest_12 : decode cX0_findBest 12 = .ok (.aload_n 0, 1) := dz_at dqX0_findBest_p090 7 rfl
theorem dX0_findBest_13 : decode cX0_findBest 13 = .ok (.sipush 2592, 3) := dz_at dqX0_findBest_p090 8 rfl
theorem dX0_findBest_16 : decode cX0_findBest 16 = .ok (.putfield 34, 3) := dz_at dqX0_findBest_p090 9 rfl
theorem dX0_findBest_19 : decode cX0_findBest 19 = .ok (.aload_n 0, 1) := dz_at dqX0_findBest_p090 10 rfl
theorem dX0_findBest_20 : decode cX0_findBest 20 = .ok (.iconst 0, 1) := dz_at dqX0_findBest_p090 11 rfl
theorem dX0_findBest_21 : decode cX0_findBest 21 = .ok (.iload_n 2, 1) := dz_at dqX0_findBest_p090 12 rfl
theorem dX0_findBest_22 : decode cX0_findBest 22 = .ok (.iconst 0, 1) := dz_at dqX0_findBest_p090 13 rfl
set_option maxRecDepth 20000 in
theorem dqX0_findBest_p091 : dz_rn 23 (cX0_findBest.data.toList.drop 23) [(0, 8), (3, 1), (0, 25)] = some [(23, .iconst 0, 1), (24, .invokevirtual 38, 3), (27, .return_, 1)] := by decide +kernel
theorem dX0_findBest_23 : decode cX0_findBest 23 = .ok (.iconst 0, 1) := dz_at dqX0_findBest_p091 0 rfl
theorem dX0_findBest_24 : decode cX0_findBest 24 = .ok (.invokevirtual 38, 3) := dz_at dqX0_findBest_p091 1 rfl
theorem dX0_findBest_27 : decode cX0_findBest 27 = .ok (.return_, 1) := dz_at dqX0_findBest_p091 2 rfl
set_option maxRecDepth 20000 in
theorem ggX0_seek_X0_harmOf : GoodIn wsX0_seek wsX0_harmOf := goodIn_r _ [13, 14, 2, 15, 16, 17, 18, 19, 20, 21, 22, 23, 24, 25, 26, 27, 28, 32, 33, 34, 35, 36, 37, 38] rfl (by decide +kernel)
set_option maxRecDepth 20000 in
theorem gX0_seek_X0_harmOf : GoodIn wsX0_seek (wsV RX0 42 RX0 yX0_harmOf wsX0_harmOf) := goodIn_app (goodIn_of _ (by decide +kernel)) ggX0_seek_X0_harmOf
set_option maxRecDepth 20000 in
theorem ggX0_seek_X0_seek : GoodIn wsX0_seek wsX0_seek := goodIn_r _ [0, 1, 2, 3, 4, 5, 6, 7, 8, 9, 10, 11, 12, 13, 14, 15, 16, 17, 18, 19, 20, 21, 22, 23, 24, 25, 26, 27, 28, 29, 30, 31, 32, 33, 34, 35, 36, 37, 38] rfl (by decide +kernel)
set_option maxRecDepth 20000 in
theorem gX0_seek_X0_seek : GoodIn wsX0_seek (wsV RX0 38 RX0 yX0_seek wsX0_seek) := goodIn_app (goodIn_of _ (by decide +kernel)) ggX0_seek_X0_seek
set_option maxRecDepth 20000 in
theorem dqX0_seek_p090 : dz_rn 0 (cX0_seek.data.toList.drop 0) [(1, 0), (0, 4), (3, 0), (4, 3), (0, 25), (0, 1), (0, 2), (4, 4), (0, 1), (2, 0), (4, 3), (0, 4), (1, 0), (3, 3)] = some [(0, .iload 4, 2), (2, .aload_n 0, 1), (3, .getfield 34, 3), (6, .if_icmp .lt 4, 3), (9, .return_, 1), (10, .iload_n 1, 1), (11, .iload_n 2, 1), (12, .if_icmp .ge 9, 3), (15, .iload_n 1, 1), (16, .bipush 6, 2), (18, .if_icmp .lt 25, 3), (21, .aload_n 0, 1), (22, .iload 4, 2), (24, .putfield 34, 3)] := by decide +kernel
theorem dX0_seek_0 : decode cX0_seek 0 = .ok (.iload 4, 2) := dz_at dqX0_seek_p090 0 rfl
theorem dX0_seek_2 : decode cX0_seek 2 = .ok (.aload_n 0, 1) := dz_at dqX0_seek_p090 1 rfl
theorem dX0_seek_3 : decode cX0_seek 3 = .ok (.getfield 34, 3) := dz_at dqX0_seek_p090 2 rfl
theorem dX0_seek_6 : decode cX0_seek 6 = .ok (.if_icmp .lt 4, 3) := dz_at dqX0_seek_p090 3 rfl
theorem dX0_seek_9 : decode cX0_seek 9 = .ok (.return_, 1) := dz_at dqX0_seek_p090 4 rfl
theorem dX0_seek_10 : decode cX0_seek 10 = .ok (.iload_n 1, 1) := dz_at dqX0_seek_p090 5 rfl
theorem dX0_seek_11 : decode cX0_seek 11 = .ok (.iload_n 2, 1) := dz_at dqX0_seek_p090 6 rfl
theorem dX0_seek_12 : decode cX0_seek 12 = .ok (.if_icmp .ge 9, 3) := dz_at dqX0_seek_p090 7 rfl
theorem dX0_seek_15 : decode cX0_seek 15 = .ok (.iload_n 1, 1) := dz_at dqX0_seek_p090 8 rfl
theorem dX0_seek_16 : decode cX0_seek 16 = .ok (.bipush 6, 2) := dz_at dqX0_seek_p090 9 rfl
theorem dX0_seek_18 : decode cX0_seek 18 = .ok (.if_icmp .lt 25, 3) := dz_at dqX0_seek_p090 10 rfl
theorem dX0_seek_21 : decode cX0_seek 21 = .ok (.aload_n 0, 1) := dz_at dqX0_seek_p090 11 rfl
theorem dX0_seek_22 : decode cX0_seek 22 = .ok (.iload 4, 2) := dz_at dqX0_seek_p090 12 rfl
theorem dX0_seek_24 : decode cX0_seek 24 = .ok (.putfield 34, 3) := dz_at dqX0_seek_p090 13 rfl
set_option maxRecDepth 20000 in
theorem dqX0_seek_p091 : dz_rn 27 (cX0_seek.data.toList.drop 27) [(0, 4), (3, 0), (0, 8), (0, 4), (3, 0), (0, 8), (2, 0), (3, 2), (0, 25), (0, 8), (1, 1), (1, 0), (0, 2), (4, 4)] = some [(27, .aload_n 0, 1), (28, .getfield 18, 3), (31, .iconst 0, 1), (32, .aload_n 0, 1), (33, .getfield 21, 3), (36, .iconst 0, 1), (37, .bipush 6, 2), (39, .invokestatic 28, 3), (42, .return_, 1), (43, .iconst 0, 1), (44, .istore 5, 2), (46, .iload 5, 2), (48, .iload_n 2, 1), (49, .if_icmp .ge 53, 3)] := by decide +kernel
theorem dX0_seek_27 : decode cX0_seek 27 = .ok (.aload_n 0, 1) := dz_at dqX0_seek_p091 0 rfl
theorem dX0_seek_28 : decode cX0_seek 28 = .ok (.getfield 18, 3) := dz_at dqX0_seek_p091 1 rfl
theorem dX0_seek_31 : decode cX0_seek 31 = .ok (.iconst 0, 1) := dz_at dqX0_seek_p091 2 rfl
theorem dX0_seek_32 : decode cX0_seek 32 = .ok (.aload_n 0, 1) := dz_at dqX0_seek_p091 3 rfl
theorem dX0_seek_33 : decode cX0_seek 33 = .ok (.getfield 21, 3) := dz_at dqX0_seek_p091 4 rfl
theorem dX0_seek_36 : decode cX0_seek 36 = .ok (.iconst 0, 1) := dz_at dqX0_seek_p091 5 rfl
theorem dX0_seek_37 : decode cX0_seek 37 = .ok (.bipush 6, 2) := dz_at dqX0_seek_p091 6 rfl
theorem dX0_seek_39 : decode cX0_seek 39 = .ok (.invokestatic 28, 3) := dz_at dqX0_seek_p091 7 rfl
theorem dX0_seek_42 : decode cX0_seek 42 = .ok (.return_, 1) := dz_at dqX0_seek_p091 8 rfl
theorem dX0_seek_43 : decode cX0_seek 43 = .ok (.iconst 0, 1) := dz_at dqX0_seek_p091 9 rfl
theorem dX0_seek_44 : decode cX0_seek 44 = .ok (.istore 5, 2) := dz_at dqX0_seek_p091 10 rfl
theorem dX0_seek_46 : decode cX0_seek 46 = .ok (.iload 5, 2) := dz_at dqX0_seek_p091 11 rfl
theorem dX0_seek_48 : decode cX0_seek 48 = .ok (.iload_n 2, 1) := dz_at dqX0_seek_p091 12 rfl
theorem dX0_seek_49 : decode cX0_seek 49 = .ok (.if_icmp .ge 53, 3) := dz_at dqX0_seek_p091 13 rfl
set_option maxRecDepth 20000 in
theorem dqX0_seek_p092 : dz_rn 52 (cX0_seek.data.toList.drop 52) [(0, 3), (1, 0), (0, 32), (0, 9), (0, 29), (4, 8), (0, 4), (3, 0), (0, 1), (0, 4), (3, 0), (1, 0), (0, 10), (0, 22)] = some [(52, .iload_n 3, 1), (53, .iload 5, 2), (55, .ishr, 1), (56, .iconst 1, 1), (57, .iand, 1), (58, .ifCond .ne 38, 3), (61, .aload_n 0, 1), (62, .getfield 18, 3), (65, .iload_n 1, 1), (66, .aload_n 0, 1), (67, .getfield 15, 3), (70, .iload 5, 2), (72, .iaload, 1), (73, .iastore, 1)] := by decide +kernel
theorem dX0_seek_52 : decode cX0_seek 52 = .ok (.iload_n 3, 1) := dz_at dqX0_seek_p092 0 rfl
theorem dX0_seek_53 : decode cX0_seek 53 = .ok (.iload 5, 2) := dz_at dqX0_seek_p092 1 rfl
theorem dX0_seek_55 : decode cX0_seek 55 = .ok (.ishr, 1) := dz_at dqX0_seek_p092 2 rfl
theorem dX0_seek_56 : decode cX0_seek 56 = .ok (.iconst 1, 1) := dz_at dqX0_seek_p092 3 rfl
theorem dX0_seek_57 : decode cX0_seek 57 = .ok (.iand, 1) := dz_at dqX0_seek_p092 4 rfl
theorem dX0_seek_58 : decode cX0_seek 58 = .ok (.ifCond .ne 38, 3) := dz_at dqX0_seek_p092 5 rfl
theorem dX0_seek_61 : decode cX0_seek 61 = .ok (.aload_n 0, 1) := dz_at dqX0_seek_p092 6 rfl
theorem dX0_seek_62 : decode cX0_seek 62 = .ok (.getfield 18, 3) := dz_at dqX0_seek_p092 7 rfl
theorem dX0_seek_65 : decode cX0_seek 65 = .ok (.iload_n 1, 1) := dz_at dqX0_seek_p092 8 rfl
theorem dX0_seek_66 : decode cX0_seek 66 = .ok (.aload_n 0, 1) := dz_at dqX0_seek_p092 9 rfl
theorem dX0_seek_67 : decode cX0_seek 67 = .ok (.getfield 15, 3) := dz_at dqX0_seek_p092 10 rfl
theorem dX0_seek_70 : decode cX0_seek 70 = .ok (.iload 5, 2) := dz_at dqX0_seek_p092 11 rfl
theorem dX0_seek_72 : decode cX0_seek 72 = .ok (.iaload, 1) := dz_at dqX0_seek_p092 12 rfl
theorem dX0_seek_73 : decode cX0_seek 73 = .ok (.iastore, 1) := dz_at dqX0_seek_p092 13 rfl
set_option maxRecDepth 20000 in
theorem dqX0_seek_p093 : dz_rn 74 (cX0_seek.data.toList.drop 74) [(0, 4), (0, 1), (0, 9), (0, 11), (0, 2), (0, 3), (0, 9), (1, 0), (0, 31), (0, 39), (1, 0), (0, 4), (0, 1), (3, 1)] = some [(74, .aload_n 0, 1), (75, .iload_n 1, 1), (76, .iconst 1, 1), (77, .iadd, 1), (78, .iload_n 2, 1), (79, .iload_n 3, 1), (80, .iconst 1, 1), (81, .iload 5, 2), (83, .ishl, 1), (84, .ior, 1), (85, .iload 4, 2), (87, .aload_n 0, 1), (88, .iload_n 1, 1), (89, .invokevirtual 42, 3)] := by decide +kernel
theorem dX0_seek_74 : decode cX0_seek 74 = .ok (.aload_n 0, 1) := dz_at dqX0_seek_p093 0 rfl
theorem dX0_seek_75 : decode cX0_seek 75 = .ok (.iload_n 1, 1) := dz_at dqX0_seek_p093 1 rfl
theorem dX0_seek_76 : decode cX0_seek 76 = .ok (.iconst 1, 1) := dz_at dqX0_seek_p093 2 rfl
theorem dX0_seek_77 : decode cX0_seek 77 = .ok (.iadd, 1) := dz_at dqX0_seek_p093 3 rfl
theorem dX0_seek_78 : decode cX0_seek 78 = .ok (.iload_n 2, 1) := dz_at dqX0_seek_p093 4 rfl
theorem dX0_seek_79 : decode cX0_seek 79 = .ok (.iload_n 3, 1) := dz_at dqX0_seek_p093 5 rfl
theorem dX0_seek_80 : decode cX0_seek 80 = .ok (.iconst 1, 1) := dz_at dqX0_seek_p093 6 rfl
theorem dX0_seek_81 : decode cX0_seek 81 = .ok (.iload 5, 2) := dz_at dqX0_seek_p093 7 rfl
theorem dX0_seek_83 : decode cX0_seek 83 = .ok (.ishl, 1) := dz_at dqX0_seek_p093 8 rfl
theorem dX0_seek_84 : decode cX0_seek 84 = .ok (.ior, 1) := dz_at dqX0_seek_p093 9 rfl
theorem dX0_seek_85 : decode cX0_seek 85 = .ok (.iload 4, 2) := dz_at dqX0_seek_p093 10 rfl
theorem dX0_seek_87 : decode cX0_seek 87 = .ok (.aload_n 0, 1) := dz_at dqX0_seek_p093 11 rfl
theorem dX0_seek_88 : decode cX0_seek 88 = .ok (.iload_n 1, 1) := dz_at dqX0_seek_p093 12 rfl
theorem dX0_seek_89 : decode cX0_seek 89 = .ok (.invokevirtual 42, 3) := dz_at dqX0_seek_p093 13 rfl
set_option maxRecDepth 20000 in
theorem dqX0_seek_p094 : dz_rn 92 (cX0_seek.data.toList.drop 92) [(0, 11), (3, 1), (5, 0), (4, 0), (0, 25)] = some [(92, .iadd, 1), (93, .invokevirtual 38, 3), (96, .iinc 5 1, 3), (99, .goto (-53), 3), (102, .return_, 1)] := by decide +kernel
theorem dX0_seek_92 : decode cX0_seek 92 = .ok (.iadd, 1) := dz_at dqX0_seek_p094 0 rfl
theorem dX0_seek_93 : decode cX0_seek 93 = .ok (.invokevirtual 38, 3) := dz_at dqX0_seek_p094 1 rfl
theorem dX0_seek_96 : decode cX0_seek 96 = .ok (.iinc 5 1, 3) := dz_at dqX0_seek_p094 2 rfl
theorem dX0_seek_99 : decode cX0_seek 99 = .ok (.goto (-53), 3) := dz_at dqX0_seek_p094 3 rfl
theorem dX0_seek_102 : decode cX0_seek 102 = .ok (.return_, 1) := dz_at dqX0_seek_p094 4 rfl
set_option maxRecDepth 20000 in
theorem ggX0_harmOf_X2_shared : GoodIn wsX0_harmOf wsX2_shared := goodIn_r _ [8, 9, 10, 11, 12, 13, 14, 15, 16, 23] rfl (by decide +kernel)
set_option maxRecDepth 20000 in
theorem gX0_harmOf_X2_shared : GoodIn wsX0_harmOf (wsV RX0 46 RX2 yX2_shared wsX2_shared) := goodIn_app (goodIn_of _ (by decide +kernel)) ggX0_harmOf_X2_shared
set_option maxRecDepth 20000 in
theorem dqX0_harmOf_p090 : dz_rn 0 (cX0_harmOf.data.toList.drop 0) [(0, 8), (0, 20), (0, 8), (0, 21), (0, 3), (0, 1), (4, 4), (0, 2), (0, 4), (3, 0), (0, 4), (3, 0), (0, 3), (0, 10)] = some [(0, .iconst 0, 1), (1, .istore_n 2, 1), (2, .iconst 0, 1), (3, .istore_n 3, 1), (4, .iload_n 3, 1), (5, .iload_n 1, 1), (6, .if_icmp .ge 43, 3), (9, .iload_n 2, 1), (10, .aload_n 0, 1), (11, .getfield 24, 3), (14, .aload_n 0, 1), (15, .getfield 18, 3), (18, .iload_n 3, 1), (19, .iaload, 1)] := by decide +kernel
theorem dX0_harmOf_0 : decode cX0_harmOf 0 = .ok (.iconst 0, 1) := dz_at dqX0_harmOf_p090 0 rfl
theorem dX0_harmOf_1 : decode cX0_harmOf 1 = .ok (.istore_n 2, 1) := dz_at dqX0_harmOf_p090 1 rfl
theorem dX0_harmOf_2 : decode cX0_harmOf 2 = .ok (.iconst 0, 1) := dz_at dqX0_harmOf_p090 2 rfl
theorem dX0_harmOf_3 : decode cX0_harmOf 3 = .ok (.istore_n 3, 1) := dz_at dqX0_harmOf_p090 3 rfl
theorem dX0_harmOf_4 : decode cX0_harmOf 4 = .ok (.iload_n 3, 1) := dz_at dqX0_harmOf_p090 4 rfl
theorem dX0_harmOf_5 : decode cX0_harmOf 5 = .ok (.iload_n 1, 1) := dz_at dqX0_harmOf_p090 5 rfl
theorem dX0_harmOf_6 : decode cX0_harmOf 6 = .ok (.if_icmp .ge 43, 3) := dz_at dqX0_harmOf_p090 6 rfl
theorem dX0_harmOf_9 : decode cX0_harmOf 9 = .ok (.iload_n 2, 1) := dz_at dqX0_harmOf_p090 7 rfl
theorem dX0_harmOf_10 : decode cX0_harmOf 10 = .ok (.aload_n 0, 1) := dz_at dqX0_harmOf_p090 8 rfl
theorem dX0_harmOf_11 : decode cX0_harmOf 11 = .ok (.getfield 24, 3) := dz_at dqX0_harmOf_p090 9 rfl
theorem dX0_harmOf_14 : decode cX0_harmOf 14 = .ok (.aload_n 0, 1) := dz_at dqX0_harmOf_p090 10 rfl
theorem dX0_harmOf_15 : decode cX0_harmOf 15 = .ok (.getfield 18, 3) := dz_at dqX0_harmOf_p090 11 rfl
theorem dX0_harmOf_18 : decode cX0_harmOf 18 = .ok (.iload_n 3, 1) := dz_at dqX0_harmOf_p090 12 rfl
theorem dX0_harmOf_19 : decode cX0_harmOf 19 = .ok (.iaload, 1) := dz_at dqX0_harmOf_p090 13 rfl
set_option maxRecDepth 20000 in
theorem dqX0_harmOf_p091 : dz_rn 20 (cX0_harmOf.data.toList.drop 20) [(0, 4), (3, 0), (0, 1), (0, 10), (3, 1), (0, 4), (3, 0), (0, 3), (2, 0), (0, 23), (0, 1), (0, 11), (0, 10), (0, 23)] = some [(20, .aload_n 0, 1), (21, .getfield 18, 3), (24, .iload_n 1, 1), (25, .iaload, 1), (26, .invokevirtual 46, 3), (29, .aload_n 0, 1), (30, .getfield 9, 3), (33, .iload_n 3, 1), (34, .bipush 10, 2), (36, .imul, 1), (37, .iload_n 1, 1), (38, .iadd, 1), (39, .iaload, 1), (40, .imul, 1)] := by decide +kernel
theorem dX0_harmOf_20 : decode cX0_harmOf 20 = .ok (.aload_n 0, 1) := dz_at dqX0_harmOf_p091 0 rfl
theorem dX0_harmOf_21 : decode cX0_harmOf 21 = .ok (.getfield 18, 3) := dz_at dqX0_harmOf_p091 1 rfl
theorem dX0_harmOf_24 : decode cX0_harmOf 24 = .ok (.iload_n 1, 1) := dz_at dqX0_harmOf_p091 2 rfl
theorem dX0_harmOf_25 : decode cX0_harmOf 25 = .ok (.iaload, 1) := dz_at dqX0_harmOf_p091 3 rfl
theorem dX0_harmOf_26 : decode cX0_harmOf 26 = .ok (.invokevirtual 46, 3) := dz_at dqX0_harmOf_p091 4 rfl
theorem dX0_harmOf_29 : decode cX0_harmOf 29 = .ok (.aload_n 0, 1) := dz_at dqX0_harmOf_p091 5 rfl
theorem dX0_harmOf_30 : decode cX0_harmOf 30 = .ok (.getfield 9, 3) := dz_at dqX0_harmOf_p091 6 rfl
theorem dX0_harmOf_33 : decode cX0_harmOf 33 = .ok (.iload_n 3, 1) := dz_at dqX0_harmOf_p091 7 rfl
theorem dX0_harmOf_34 : decode cX0_harmOf 34 = .ok (.bipush 10, 2) := dz_at dqX0_harmOf_p091 8 rfl
theorem dX0_harmOf_36 : decode cX0_harmOf 36 = .ok (.imul, 1) := dz_at dqX0_harmOf_p091 9 rfl
theorem dX0_harmOf_37 : decode cX0_harmOf 37 = .ok (.iload_n 1, 1) := dz_at dqX0_harmOf_p091 10 rfl
theorem dX0_harmOf_38 : decode cX0_harmOf 38 = .ok (.iadd, 1) := dz_at dqX0_harmOf_p091 11 rfl
theorem dX0_harmOf_39 : decode cX0_harmOf 39 = .ok (.iaload, 1) := dz_at dqX0_harmOf_p091 12 rfl
theorem dX0_harmOf_40 : decode cX0_harmOf 40 = .ok (.imul, 1) := dz_at dqX0_harmOf_p091 13 rfl
set_option maxRecDepth 20000 in
theorem dqX0_harmOf_p092 : dz_rn 41 (cX0_harmOf.data.toList.drop 41) [(0, 11), (0, 20), (5, 0), (4, 0), (0, 2), (0, 12)] = some [(41, .iadd, 1), (42, .istore_n 2, 1), (43, .iinc 3 1, 3), (46, .goto (-42), 3), (49, .iload_n 2, 1), (50, .ireturn, 1)] := by decide +kernel
theorem dX0_harmOf_41 : decode cX0_harmOf 41 = .ok (.iadd, 1) := dz_at dqX0_harmOf_p092 0 rfl
theorem dX0_harmOf_42 : decode cX0_harmOf 42 = .ok (.istore_n 2, 1) := dz_at dqX0_harmOf_p092 1 rfl
theorem dX0_harmOf_43 : decode cX0_harmOf 43 = .ok (.iinc 3 1, 3) := dz_at dqX0_harmOf_p092 2 rfl
theorem dX0_harmOf_46 : decode cX0_harmOf 46 = .ok (.goto (-42), 3) := dz_at dqX0_harmOf_p092 3 rfl
theorem dX0_harmOf_49 : decode cX0_harmOf 49 = .ok (.iload_n 2, 1) := dz_at dqX0_harmOf_p092 4 rfl
theorem dX0_harmOf_50 : decode cX0_harmOf 50 = .ok (.ireturn, 1) := dz_at dqX0_harmOf_p092 5 rfl
set_option maxHeartbeats 4000000 in
set_option maxRecDepth 100000 in
theorem k_X0_exchangeAlike (l : Launch) (dC : Nat → ClassId) (dI : Nat → Nat → Nat) (cI cZ cQ : ClassId) (a : Nat → Nat) (ali : Nat → Int32) (thi : Nat → Int32) (ctr : Nat → Int32) (cbe : Nat → Int32) (har : Int32) (mar : Nat → Int32) (tol : Nat → Int32) (sz : Nat) (fa : Int32) (fb : Int32) (v : Int32) (r_thi : rg 8 (0) (23) thi) (r_ctr : rg 6 (0) (23) ctr) (r_mar : rg 24 (0) (255) mar) (r_tol : rg 8 (0) (23) tol) (q0 : 0 ≤ fa.toInt) (q1 : fa.toInt ≤ 9) (q2 : 0 ≤ fb.toInt) (q3 : fb.toInt ≤ 9) : KW l yX0_exchangeAlike wsX0_exchangeAlike { frames := 0, cells := 0, slots := 0, locals := 0 } (dC, dI) (TY cI cZ cQ) (wCod cI cZ cQ a ali thi ctr cbe har mar tol) [.ref (a 28), .int fa, .int fb, .int v] sz 0 0 (fun (r : Int32) (u : US) => (r = ali (fa.toInt * 10 + fb.toInt).toNat) ∧ ((u.1 0) = upd (upd ali (fa.toInt * 10 + fb.toInt).toNat v) (fb.toInt * 10 + fa.toInt).toNat v)) (fun u : US => (wCod cI cZ cQ a (u.1 0) thi ctr cbe har mar tol)) := by
  refine Met.ofW (cc := cX0_exchangeAlike) (maxL := 5) (ret := (some .int)) (by decide) rfl ?_
  intro p e s m args below meth c s₁ B hml hv
  obtain ⟨rfl, hsz, hP, hK, hD0, hN⟩ := hv
  have hx := B.exec
  have hb := B.bytes
  have hr := B.returns
  have hts := atoms_spec (ws := wsX0_exchangeAlike) B.pre
  have hown : s.vm.findClass RX0 = some m.cls := findClass_of_methodNamed B.named
  have hlocks := B.notSynchronized
  have lf9 := hts (.fieldLink RX0 9 "PalaceOfRooms$Codes" "alike" "[I") (List.mem_cons_of_mem _ (List.mem_append_left _ (List.mem_of_getElem? (i := 0) rfl)))
  have inX0 : ∀ w ∈ wsX00, w ∈ wsX0_exchangeAlike := fun w h => List.mem_cons_of_mem _ (List.mem_append_right _ h)
  subst hsz
  have hD := hD0.self (sz := s.heap.size)
  generalize hAe : va_A (wCod cI cZ cQ a ali thi ctr cbe har mar tol) s.heap.size = A at hD ⊢
  have hA : ∀ q : Nat, s.heap.size ≤ q → A q := fun q h => by rw [← hAe]; exact Or.inr h
  have hS : va_S A s.heap s.heap [] := va_S.rf
  have hl := lv_entry ([.ref (a 28), .int fa, .int fb, .int v]) (n := 5) (Nat.le_of_ble_eq_true rfl)
  rw [lg_entry_eq]
  generalize (lg_sl ([.ref (a 28), .int fa, .int fb, .int v]) ++ List.replicate (5 - (lg_sl ([.ref (a 28), .int fa, .int fb, .int v])).length) Slot.unset).toArray = ls at hl ⊢
  have hl : lv_has ls 5 [(0, .ref (a 28)), (1, .int fa), (2, .int fb), (3, .int v)] := hl
  refine lv_aload_n hx hb dX0_exchangeAlike_0 rfl (lv_at hl 0 rfl) ?_
  refine va_get (D := (dC, dI)) (ci := 0) (v := .ref (a 29)) (C := RX0) (T := TX0) (N := 6) hx hb hts inX0 hown hK hP 0 rfl rfl 1 (by decide) lf9 (fun _ h9 => h9) rfl dX0_exchangeAlike_1 ?_
  refine lv_iload_n hx hb dX0_exchangeAlike_4 rfl (lv_at hl 1 rfl) ?_
  refine lv_bipush (v := 10) hx hb dX0_exchangeAlike_5 (by decide) ?_
  refine lv_imul hx hb dX0_exchangeAlike_7 ?_
  have f1 : (fa * 10).toInt = (fa.toInt) * (10) := mulC rfl (show (10 : Int32).toInt = 10 from rfl) (by omega) (by omega)
  refine lv_iload_n hx hb dX0_exchangeAlike_8 rfl (lv_at hl 2 rfl) ?_
  refine lv_iadd hx hb dX0_exchangeAlike_9 ?_
  have f2 : ((fa * 10) + fb).toInt = ((fa.toInt) * (10)) + (fb.toInt) := addC f1 rfl (by omega) (by omega)
  have b3 : vp_in ((fa * 10) + fb) 100 := inC f2 (by omega) (by omega)
  refine va_iald hx hb hK hP 1 0 rfl rfl b3 dX0_exchangeAlike_10 ?_
  refine lv_topi (fun x4 ex4 => ?_)
  have ix4 : x4.toInt = (ali ((fa * 10) + fb).toNatClampNeg).toInt := by rw [ex4]
  refine lv_istore (lv' := [(4, .int x4), (0, .ref (a 28)), (1, .int fa), (2, .int fb), (3, .int v)]) hx hb dX0_exchangeAlike_11 hl (by decide) rfl (fun ls hl => ?_)
  refine lv_aload_n hx hb dX0_exchangeAlike_13 rfl (lv_at hl 1 rfl) ?_
  refine va_get (D := (dC, dI)) (ci := 0) (v := .ref (a 29)) (C := RX0) (T := TX0) (N := 6) hx hb hts inX0 hown hK hP 0 rfl rfl 1 (by decide) lf9 (fun _ h9 => h9) rfl dX0_exchangeAlike_14 ?_
  refine lv_iload_n hx hb dX0_exchangeAlike_17 rfl (lv_at hl 2 rfl) ?_
  refine lv_bipush (v := 10) hx hb dX0_exchangeAlike_18 (by decide) ?_
  refine lv_imul hx hb dX0_exchangeAlike_20 ?_
  have f5 : (fa * 10).toInt = (fa.toInt) * (10) := mulC rfl (show (10 : Int32).toInt = 10 from rfl) (by omega) (by omega)
  refine lv_iload_n hx hb dX0_exchangeAlike_21 rfl (lv_at hl 3 rfl) ?_
  refine lv_iadd hx hb dX0_exchangeAlike_22 ?_
  have f6 : ((fa * 10) + fb).toInt = ((fa.toInt) * (10)) + (fb.toInt) := addC f5 rfl (by omega) (by omega)
  refine lv_iload_n hx hb dX0_exchangeAlike_23 rfl (lv_at hl 4 rfl) ?_
  have b7 : vp_in ((fa * 10) + fb) 100 := inC f6 (by omega) (by omega)
  refine va_iast hx hb hK hP hD hS 1 0 rfl rfl b7 dX0_exchangeAlike_24 (fun H locs hP hD hS => ?_)
  obtain ⟨ali_u8, eali_u8⟩ : ∃ f : Nat → Int32, f = upd ali ((fa * 10) + fb).toNatClampNeg v := ⟨_, rfl⟩
  have hP : va_P (dC, dI) vwCl (wCod cI cZ cQ a ali_u8 thi ctr cbe har mar tol) H := by rw [eali_u8]; exact hP
  have hD : va_D A (wCod cI cZ cQ a ali_u8 thi ctr cbe har mar tol) := by rw [eali_u8]; exact hD
  refine lv_aload_n hx hb dX0_exchangeAlike_25 rfl (lv_at hl 1 rfl) ?_
  refine va_get (D := (dC, dI)) (ci := 0) (v := .ref (a 29)) (C := RX0) (T := TX0) (N := 6) hx hb hts inX0 hown hK hP 0 rfl rfl 1 (by decide) lf9 (fun _ h9 => h9) rfl dX0_exchangeAlike_26 ?_
  refine lv_iload_n hx hb dX0_exchangeAlike_29 rfl (lv_at hl 3 rfl) ?_
  refine lv_bipush (v := 10) hx hb dX0_exchangeAlike_30 (by decide) ?_
  refine lv_imul hx hb dX0_exchangeAlike_32 ?_
  have f9 : (fb * 10).toInt = (fb.toInt) * (10) := mulC rfl (show (10 : Int32).toInt = 10 from rfl) (by omega) (by omega)
  refine lv_iload_n hx hb dX0_exchangeAlike_33 rfl (lv_at hl 2 rfl) ?_
  refine lv_iadd hx hb dX0_exchangeAlike_34 ?_
  have f10 : ((fb * 10) + fa).toInt = ((fb.toInt) * (10)) + (fa.toInt) := addC f9 rfl (by omega) (by omega)
  refine lv_iload_n hx hb dX0_exchangeAlike_35 rfl (lv_at hl 4 rfl) ?_
  have b11 : vp_in ((fb * 10) + fa) 100 := inC f10 (by omega) (by omega)
  refine va_iast hx hb hK hP hD hS 1 0 rfl rfl b11 dX0_exchangeAlike_36 (fun H locs hP hD hS => ?_)
  obtain ⟨ali_u12, eali_u12⟩ : ∃ f : Nat → Int32, f = upd ali_u8 ((fb * 10) + fa).toNatClampNeg v := ⟨_, rfl⟩
  have hP : va_P (dC, dI) vwCl (wCod cI cZ cQ a ali_u12 thi ctr cbe har mar tol) H := by rw [eali_u12]; exact hP
  have hD : va_D A (wCod cI cZ cQ a ali_u12 thi ctr cbe har mar tol) := by rw [eali_u12]; exact hD
  refine lv_iload hx hb dX0_exchangeAlike_37 (lv_at hl 0 rfl) ?_
  exact W.iret (v := x4) hx hb hr (fun t ht hW => ⟨⟨x4, (uS [ali_u12] 0 (fun _ => 0)), rfl, ⟨(show x4 = ali (fa.toInt * 10 + fb.toInt).toNat from by (subst_vars; rw [clC (x := fa * 10 + fb) (X := fa.toInt * 10 + fb.toInt) (by assumption)])), (show ali_u12 = upd (upd ali (fa.toInt * 10 + fb.toInt).toNat v) (fb.toInt * 10 + fa.toInt).toNat v from by (subst_vars; rw [clC (x := fa * 10 + fb) (X := fa.toInt * 10 + fb.toInt) (by assumption), clC (x := fb * 10 + fa) (X := fb.toInt * 10 + fa.toInt) (by assumption)]))⟩, by rw [ht]; exact hP, hD⟩, hS.F ht⟩) hS.2.2 dX0_exchangeAlike_39
set_option maxHeartbeats 4000000 in
set_option maxRecDepth 100000 in
theorem k_X0_harmOf (l : Launch) (dC : Nat → ClassId) (dI : Nat → Nat → Nat) (cI cZ cQ : ClassId) (a : Nat → Nat) (ali : Nat → Int32) (thi : Nat → Int32) (ctr : Nat → Int32) (cbe : Nat → Int32) (har : Int32) (mar : Nat → Int32) (tol : Nat → Int32) (fi : Int32) (r_thi : rg 8 (0) (23) thi) (r_ctr : rg 6 (0) (23) ctr) (r_mar : rg 24 (0) (255) mar) (r_tol : rg 8 (0) (23) tol) (q0 : 0 ≤ fi.toInt) (q1 : fi.toInt ≤ 5) : KR l yX0_harmOf wsX0_harmOf { frames := 2, cells := 0, slots := 0, locals := 42 } (dC, dI) (TY cI cZ cQ) (wCod cI cZ cQ a ali thi ctr cbe har mar tol) [.ref (a 28), .int fi] (fun r : Int32 => True) := by
  refine Met.ofW (cc := cX0_harmOf) (maxL := 4) (ret := (some .int)) (by decide) rfl ?_
  intro p e s m args below meth c s₁ B hml hv
  obtain ⟨rfl, hP, hK, hN⟩ := hv
  have hx := B.exec
  have hb := B.bytes
  have hr := B.returns
  have hts := atoms_spec (ws := wsX0_harmOf) B.pre
  have hown : s.vm.findClass RX0 = some m.cls := findClass_of_methodNamed B.named
  have hlocks := B.notSynchronized
  have lf24 := hts (.fieldLink RX0 24 "PalaceOfRooms$Codes" "pictures" "LPalaceOfRooms$Pictures;") (List.mem_cons_of_mem _ (List.mem_append_left _ (List.mem_append_left _ (List.mem_of_getElem? (i := 0) rfl))))
  have inX0 : ∀ w ∈ wsX00, w ∈ wsX0_harmOf := fun w h => List.mem_cons_of_mem _ (List.mem_append_left _ (List.mem_append_right _ h))
  have lf18 := hts (.fieldLink RX0 18 "PalaceOfRooms$Codes" "trial" "[I") (List.mem_cons_of_mem _ (List.mem_append_left _ (List.mem_append_left _ (List.mem_of_getElem? (i := 1) rfl))))
  have lf9 := hts (.fieldLink RX0 9 "PalaceOfRooms$Codes" "alike" "[I") (List.mem_cons_of_mem _ (List.mem_append_left _ (List.mem_append_left _ (List.mem_of_getElem? (i := 2) rfl))))
  have hl := lv_entry ([.ref (a 28), .int fi]) (n := 4) (Nat.le_of_ble_eq_true rfl)
  rw [lg_entry_eq]
  generalize (lg_sl ([.ref (a 28), .int fi]) ++ List.replicate (4 - (lg_sl ([.ref (a 28), .int fi])).length) Slot.unset).toArray = ls at hl ⊢
  have hl : lv_has ls 4 [(0, .ref (a 28)), (1, .int fi)] := hl
  refine lv_iconst (v := 0) hx hb dX0_harmOf_0 (by decide) ?_
  refine lv_istore_n (lv' := [(2, .int 0), (0, .ref (a 28)), (1, .int fi)]) hx hb dX0_harmOf_1 rfl hl (by decide) rfl (fun ls hl => ?_)
  refine lv_iconst (v := 0) hx hb dX0_harmOf_2 (by decide) ?_
  refine lv_istore_n (lv' := [(3, .int 0), (2, .int 0), (0, .ref (a 28)), (1, .int fi)]) hx hb dX0_harmOf_3 rfl hl (by decide) rfl (fun ls hl => ?_)
  have L4 : ∀ (nn : Nat) (y4_2 : Int32) (y4_3 : Int32) (ls : Array Slot), (0 ≤ (y4_3.toInt)) → ((y4_3.toInt) ≤ 5) → (5 - (y4_3.toInt)).toNat < nn → lv_has ls 4 [(0, .ref (a 28)), (1, .int fi), (2, .int y4_2), (3, .int y4_3)] → W p l e (headSpec wsX0_harmOf { frames := 2, cells := 0, slots := 0, locals := 42 }).room s m ([.ref (a 28), .int fi] : List Value).toArray below meth c s.heap [] 0 0 (MQ below (QR (fun r : Int32 => True)) ([.ref (a 28), .int fi] : List Value).toArray s 0 0 (fun _ => False)) (F0 m 4 ls []) := by
    intro nn
    induction nn with
    | zero =>
      intro y4_2 y4_3 ls i4_0 i4_1 hm
      exact absurd hm (Nat.not_lt_zero _)
    | succ nn ih4 =>
      intro y4_2 y4_3 ls i4_0 i4_1 hm hl
      refine lv_iload_n hx hb dX0_harmOf_4 rfl (lv_at hl 3 rfl) ?_
      refine lv_iload_n hx hb dX0_harmOf_5 rfl (lv_at hl 1 rfl) ?_
      refine lv_icmp_ge (tgt := 49) hx hb dX0_harmOf_6 (by decide) (fun c1 => ?_) (fun c1 => ?_)
      · have dc1 : fi.toInt ≤ y4_3.toInt := leC rfl rfl c1
        refine lv_iload_n hx hb dX0_harmOf_49 rfl (lv_at hl 2 rfl) ?_
        exact W.iret (v := y4_2) hx hb hr (fun t ht hW => ⟨y4_2, rfl, trivial, ht⟩) (fun q h => by cases h) dX0_harmOf_50
      · have dc1 : y4_3.toInt < fi.toInt := nleC rfl rfl c1
        refine lv_iload_n hx hb dX0_harmOf_9 rfl (lv_at hl 2 rfl) ?_
        refine lv_aload_n hx hb dX0_harmOf_10 rfl (lv_at hl 0 rfl) ?_
        refine va_get (D := (dC, dI)) (ci := 0) (v := .ref (a 2)) (C := RX0) (T := TX0) (N := 6) hx hb hts inX0 hown hK hP 0 rfl rfl 0 (by decide) lf24 (fun _ h9 => h9) rfl dX0_harmOf_11 ?_
        refine lv_aload_n hx hb dX0_harmOf_14 rfl (lv_at hl 0 rfl) ?_
        refine va_get (D := (dC, dI)) (ci := 0) (v := .ref (a 31)) (C := RX0) (T := TX0) (N := 6) hx hb hts inX0 hown hK hP 0 rfl rfl 3 (by decide) lf18 (fun _ h9 => h9) rfl dX0_harmOf_15 ?_
        refine lv_iload_n hx hb dX0_harmOf_18 rfl (lv_at hl 3 rfl) ?_
        have b2 : vp_in y4_3 6 := inC rfl (by omega) (by omega)
        refine va_iald hx hb hK hP 3 0 rfl rfl b2 dX0_harmOf_19 ?_
        have g3 : 0 ≤ (ctr y4_3.toNatClampNeg).toInt ∧ (ctr y4_3.toNatClampNeg).toInt ≤ 23 := rg_at r_ctr b2
        refine lv_aload_n hx hb dX0_harmOf_20 rfl (lv_at hl 0 rfl) ?_
        refine va_get (D := (dC, dI)) (ci := 0) (v := .ref (a 31)) (C := RX0) (T := TX0) (N := 6) hx hb hts inX0 hown hK hP 0 rfl rfl 3 (by decide) lf18 (fun _ h9 => h9) rfl dX0_harmOf_21 ?_
        refine lv_iload_n hx hb dX0_harmOf_24 rfl (lv_at hl 1 rfl) ?_
        have b4 : vp_in fi 6 := inC rfl (by omega) (by omega)
        refine va_iald hx hb hK hP 3 0 rfl rfl b4 dX0_harmOf_25 ?_
        have g5 : 0 ≤ (ctr fi.toNatClampNeg).toInt ∧ (ctr fi.toNatClampNeg).toInt ≤ 23 := rg_at r_ctr b4
        refine rdV (As := [.int (ctr y4_3.toNatClampNeg), .int (ctr fi.toNatClampNeg)]) (rest := [.int y4_2]) ⟨hx, hb, hml, hown, hts⟩ (k_X2_shared l dC dI cI cZ cQ a mar (ctr y4_3.toNatClampNeg) (ctr fi.toNatClampNeg) r_mar (by omega) (by omega) (by omega) (by omega)) (cwV 2 hts gX0_harmOf_X2_shared rfl rfl rfl (by decide +kernel) ⟨Nat.le_of_ble_eq_true rfl, Nat.le_of_ble_eq_true rfl⟩) hP hK hN [5, 6] rfl 5 2 rfl rfl rfl hl.1 rfl (Nat.le_of_ble_eq_true rfl) dX0_harmOf_26 ⟨Nat.le_of_ble_eq_true rfl, Nat.le_of_ble_eq_true rfl⟩ (fun r6 h7 => ?_)
        have h7 : (r6 = bc (mar (ctr y4_3.toNatClampNeg).toNatClampNeg &&& mar (ctr fi.toNatClampNeg).toNatClampNeg)) := h7
        have h7_0 := h7
        refine lv_aload_n hx hb dX0_harmOf_29 rfl (lv_at hl 0 rfl) ?_
        refine va_get (D := (dC, dI)) (ci := 0) (v := .ref (a 29)) (C := RX0) (T := TX0) (N := 6) hx hb hts inX0 hown hK hP 0 rfl rfl 1 (by decide) lf9 (fun _ h9 => h9) rfl dX0_harmOf_30 ?_
        refine lv_iload_n hx hb dX0_harmOf_33 rfl (lv_at hl 3 rfl) ?_
        refine lv_bipush (v := 10) hx hb dX0_harmOf_34 (by decide) ?_
        refine lv_imul hx hb dX0_harmOf_36 ?_
        have f8 : (y4_3 * 10).toInt = (y4_3.toInt) * (10) := mulC rfl (show (10 : Int32).toInt = 10 from rfl) (by omega) (by omega)
        refine lv_iload_n hx hb dX0_harmOf_37 rfl (lv_at hl 1 rfl) ?_
        refine lv_iadd hx hb dX0_harmOf_38 ?_
        have f9 : ((y4_3 * 10) + fi).toInt = ((y4_3.toInt) * (10)) + (fi.toInt) := addC f8 rfl (by omega) (by omega)
        have b10 : vp_in ((y4_3 * 10) + fi) 100 := inC f9 (by omega) (by omega)
        refine va_iald hx hb hK hP 1 0 rfl rfl b10 dX0_harmOf_39 ?_
        refine lv_imul hx hb dX0_harmOf_40 ?_
        refine lv_iadd hx hb dX0_harmOf_41 ?_
        refine lv_topi (fun x11 ex11 => ?_)
        have ix11 : x11.toInt = (y4_2 + (r6 * (ali ((y4_3 * 10) + fi).toNatClampNeg))).toInt := by rw [ex11]
        refine lv_istore_n (lv' := [(2, .int x11), (0, .ref (a 28)), (1, .int fi), (3, .int y4_3)]) hx hb dX0_harmOf_42 rfl hl (by decide) rfl (fun ls hl => ?_)
        obtain ⟨z12, ez12⟩ : ∃ y : Int32, y = y4_3 + 1 := ⟨_, rfl⟩
        have iz12 : z12.toInt = y4_3.toInt + 1 := by rw [ez12]; exact addC rfl rfl (by omega) (by omega)
        refine lv_iinc (v := z12) (lv' := [(3, .int z12), (2, .int x11), (0, .ref (a 28)), (1, .int fi)]) hx hb dX0_harmOf_43 hl (k := 3) rfl (by rw [ez12]; rfl) (by decide) rfl (fun ls hl => ?_)
        refine lv_goto (tgt := 4) hx hb dX0_harmOf_46 (by decide) ?_
        exact ih4 x11 z12 _ (by omega) (by omega) (by omega) (lv_sub hl [2, 3, 1, 0] rfl)
  have kc13 : (0 : Int32).toInt = 0 := rfl
  exact L4 _ 0 0 _ (by omega) (by omega) (Nat.lt_succ_self _) (lv_sub hl [2, 3, 1, 0] rfl)
set_option maxHeartbeats 4000000 in
set_option maxRecDepth 100000 in
theorem k_X0_seek_0 (l : Launch) (dC : Nat → ClassId) (dI : Nat → Nat → Nat) (cI cZ cQ : ClassId) (a : Nat → Nat) (ali : Nat → Int32) (thi : Nat → Int32) (ctr : Nat → Int32) (cbe : Nat → Int32) (har : Int32) (mar : Nat → Int32) (tol : Nat → Int32) (sz : Nat) (fi : Int32) (n : Int32) (us : Int32) (ha : Int32) (r_thi : rg 8 (0) (23) thi) (r_ctr : rg 6 (0) (23) ctr) (r_mar : rg 24 (0) (255) mar) (r_tol : rg 8 (0) (23) tol) (q0 : 6 ≤ fi.toInt) (q1 : fi.toInt ≤ 6) (q2 : 2 ≤ n.toInt) (q3 : n.toInt ≤ 6) : KV l yX0_seek wsX0_seek { frames := 3, cells := 0, slots := 0, locals := 65 } (dC, dI) (TY cI cZ cQ) (wCod cI cZ cQ a ali thi ctr cbe har mar tol) [.ref (a 28), .int fi, .int n, .int us, .int ha] sz 0 0 (fun (u : US) => (rg 6 (0) (23) (u.1 0))) (fun u : US => (wCod cI cZ cQ a ali thi (u.1 0) (u.1 1) (u.1 2 0) mar tol)) := by
  refine Met.ofW (cc := cX0_seek) (maxL := 6) (ret := none) (by decide) rfl ?_
  intro p e s m args below meth c s₁ B hml hv
  obtain ⟨rfl, hsz, hP, hK, hD0, hN⟩ := hv
  have hx := B.exec
  have hb := B.bytes
  have hr := B.returns
  have hts := atoms_spec (ws := wsX0_seek) B.pre
  have hown : s.vm.findClass RX0 = some m.cls := findClass_of_methodNamed B.named
  have hlocks := B.notSynchronized
  have lf34 := hts (.fieldLink RX0 34 "PalaceOfRooms$Codes" "bestHarm" "I") (List.mem_cons_of_mem _ (List.mem_append_left _ (List.mem_append_left _ (List.mem_append_left _ (List.mem_of_getElem? (i := 0) rfl)))))
  have inX0 : ∀ w ∈ wsX00, w ∈ wsX0_seek := fun w h => List.mem_cons_of_mem _ (List.mem_append_left _ (List.mem_append_right _ h))
  have lf18 := hts (.fieldLink RX0 18 "PalaceOfRooms$Codes" "trial" "[I") (List.mem_cons_of_mem _ (List.mem_append_left _ (List.mem_append_left _ (List.mem_append_left _ (List.mem_of_getElem? (i := 1) rfl)))))
  have lf21 := hts (.fieldLink RX0 21 "PalaceOfRooms$Codes" "best" "[I") (List.mem_cons_of_mem _ (List.mem_append_left _ (List.mem_append_left _ (List.mem_append_left _ (List.mem_of_getElem? (i := 2) rfl)))))
  subst hsz
  have hD := hD0.self (sz := s.heap.size)
  generalize hAe : va_A (wCod cI cZ cQ a ali thi ctr cbe har mar tol) s.heap.size = A at hD ⊢
  have hA : ∀ q : Nat, s.heap.size ≤ q → A q := fun q h => by rw [← hAe]; exact Or.inr h
  have hS : va_S A s.heap s.heap [] := va_S.rf
  have hl := lv_entry ([.ref (a 28), .int fi, .int n, .int us, .int ha]) (n := 6) (Nat.le_of_ble_eq_true rfl)
  rw [lg_entry_eq]
  generalize (lg_sl ([.ref (a 28), .int fi, .int n, .int us, .int ha]) ++ List.replicate (6 - (lg_sl ([.ref (a 28), .int fi, .int n, .int us, .int ha])).length) Slot.unset).toArray = ls at hl ⊢
  have hl : lv_has ls 6 [(0, .ref (a 28)), (1, .int fi), (2, .int n), (3, .int us), (4, .int ha)] := hl
  refine lv_iload hx hb dX0_seek_0 (lv_at hl 4 rfl) ?_
  refine lv_aload_n hx hb dX0_seek_2 rfl (lv_at hl 0 rfl) ?_
  refine va_get (D := (dC, dI)) (ci := 0) (v := .int har) (C := RX0) (T := TX0) (N := 6) hx hb hts inX0 hown hK hP 0 rfl rfl 5 (by decide) lf34 (fun _ h9 => h9) rfl dX0_seek_3 ?_
  refine lv_icmp_lt (tgt := 10) hx hb dX0_seek_6 (by decide) (fun c1 => ?_) (fun c1 => ?_)
  · have dc1 : ha.toInt < har.toInt := ltC rfl rfl c1
    refine lv_iload_n hx hb dX0_seek_10 rfl (lv_at hl 1 rfl) ?_
    refine lv_iload_n hx hb dX0_seek_11 rfl (lv_at hl 2 rfl) ?_
    refine lv_icmp_ge (tgt := 21) hx hb dX0_seek_12 (by decide) (fun c2 => ?_) (fun c2 => ?_)
    · have dc2 : n.toInt ≤ fi.toInt := leC rfl rfl c2
      refine lv_aload_n hx hb dX0_seek_21 rfl (lv_at hl 0 rfl) ?_
      refine lv_iload hx hb dX0_seek_22 (lv_at hl 4 rfl) ?_
      refine va_put (D := (dC, dI)) (ci := 0) (v := .int ha) (ty := .int) (C := RX0) (T := TX0) (N := 6) hx hb hts inX0 tyX0 tyX0_ok nmX0 hown hK hP hD hS 0 rfl rfl 5 (by decide) lf34 (fun _ h9 => h9) rfl (by decide +kernel) rfl rfl (Nat.le_of_ble_eq_true rfl) dX0_seek_24 (fun H locs hP hD hS => ?_)
      have hP : va_P (dC, dI) vwCl (wCod cI cZ cQ a ali thi ctr cbe ha mar tol) H := hP
      have hD : va_D A (wCod cI cZ cQ a ali thi ctr cbe ha mar tol) := hD
      refine lv_aload_n hx hb dX0_seek_27 rfl (lv_at hl 0 rfl) ?_
      refine va_get (D := (dC, dI)) (ci := 0) (v := .ref (a 31)) (C := RX0) (T := TX0) (N := 6) hx hb hts inX0 hown hK hP 0 rfl rfl 3 (by decide) lf18 (fun _ h9 => h9) rfl dX0_seek_28 ?_
      refine lv_iconst (v := 0) hx hb dX0_seek_31 (by decide) ?_
      refine lv_aload_n hx hb dX0_seek_32 rfl (lv_at hl 0 rfl) ?_
      refine va_get (D := (dC, dI)) (ci := 0) (v := .ref (a 32)) (C := RX0) (T := TX0) (N := 6) hx hb hts inX0 hown hK hP 0 rfl rfl 4 (by decide) lf21 (fun _ h9 => h9) rfl dX0_seek_33 ?_
      refine lv_iconst (v := 0) hx hb dX0_seek_36 (by decide) ?_
      refine lv_bipush (v := 6) hx hb dX0_seek_37 (by decide) ?_
      refine va_copyi (ty := .int) (n := 6) hx hb (by rw [hml]; exact hl.1.symm) hown (hts (.methodLink RX0 28 arraycopyName) (List.mem_cons_of_mem _ (List.mem_append_left _ (List.mem_append_left _ (List.mem_append_left _ (List.mem_of_getElem? (i := 3) rfl)))))) (hts (.native arraycopyName) (List.mem_cons_of_mem _ (List.mem_append_left _ (List.mem_append_left _ (List.mem_append_left _ (List.mem_of_getElem? (i := 4) rfl)))))) (hts (.static arraycopyName) (List.mem_cons_of_mem _ (List.mem_append_left _ (List.mem_append_left _ (List.mem_append_left _ (List.mem_of_getElem? (i := 5) rfl)))))) (hts (.initialized "java/lang/System") (List.mem_cons_of_mem _ (List.mem_append_left _ (List.mem_append_left _ (List.mem_append_left _ (List.mem_of_getElem? (i := 6) rfl)))))) hK hP hD hS 3 4 0 0 rfl rfl rfl rfl rfl (by decide) (by decide) (by decide) (by decide) (by decide) (fun _ _ => rfl) (Nat.le_of_ble_eq_true rfl) (Nat.le_of_ble_eq_true rfl) dX0_seek_39 (fun H locs hP hD hS => ?_)
      obtain ⟨cbe_u3, ecbe_u3⟩ : ∃ f : Nat → Int32, f = va_cpy ctr cbe 0 0 6 := ⟨_, rfl⟩
      have hP : va_P (dC, dI) vwCl (wCod cI cZ cQ a ali thi ctr cbe_u3 ha mar tol) H := by rw [ecbe_u3]; exact hP
      have hD : va_D A (wCod cI cZ cQ a ali thi ctr cbe_u3 ha mar tol) := by rw [ecbe_u3]; exact hD
      exact W.vret hx hb hr (fun t ht hW => ⟨⟨(uS [ctr, cbe_u3, (fun _ => ha)] 0 (fun _ => 0)), rfl, r_ctr, by rw [ht]; exact hP, hD⟩, hS.F ht⟩) hS.2.2 dX0_seek_42
    · have dc2 : fi.toInt < n.toInt := nleC rfl rfl c2
      exfalso
      omega
  · have dc1 : har.toInt ≤ ha.toInt := nltC rfl rfl c1
    exact W.vret hx hb hr (fun t ht hW => ⟨⟨(uS [ctr, cbe, (fun _ => har)] 0 (fun _ => 0)), rfl, r_ctr, by rw [ht]; exact hP, hD⟩, hS.F ht⟩) hS.2.2 dX0_seek_9
set_option maxHeartbeats 4000000 in
set_option maxRecDepth 100000 in
theorem k_X0_seek_1 (l : Launch) (dC : Nat → ClassId) (dI : Nat → Nat → Nat) (cI cZ cQ : ClassId) (a : Nat → Nat) (ali : Nat → Int32) (thi : Nat → Int32) (ctr : Nat → Int32) (cbe : Nat → Int32) (har : Int32) (mar : Nat → Int32) (tol : Nat → Int32) (sz : Nat) (fi : Int32) (n : Int32) (us : Int32) (ha : Int32) (r_thi : rg 8 (0) (23) thi) (r_ctr : rg 6 (0) (23) ctr) (r_mar : rg 24 (0) (255) mar) (r_tol : rg 8 (0) (23) tol) (q0 : 5 ≤ fi.toInt) (q1 : fi.toInt ≤ 6) (q2 : 2 ≤ n.toInt) (q3 : n.toInt ≤ 6) : KV l yX0_seek wsX0_seek { frames := 4, cells := 0, slots := 0, locals := 90 } (dC, dI) (TY cI cZ cQ) (wCod cI cZ cQ a ali thi ctr cbe har mar tol) [.ref (a 28), .int fi, .int n, .int us, .int ha] sz 0 0 (fun (u : US) => (rg 6 (0) (23) (u.1 0))) (fun u : US => (wCod cI cZ cQ a ali thi (u.1 0) (u.1 1) (u.1 2 0) mar tol)) := by
  refine Met.ofW (cc := cX0_seek) (maxL := 6) (ret := none) (by decide) rfl ?_
  intro p e s m args below meth c s₁ B hml hv
  obtain ⟨rfl, hsz, hP, hK, hD0, hN⟩ := hv
  have hx := B.exec
  have hb := B.bytes
  have hr := B.returns
  have hts := atoms_spec (ws := wsX0_seek) B.pre
  have hown : s.vm.findClass RX0 = some m.cls := findClass_of_methodNamed B.named
  have hlocks := B.notSynchronized
  have lf34 := hts (.fieldLink RX0 34 "PalaceOfRooms$Codes" "bestHarm" "I") (List.mem_cons_of_mem _ (List.mem_append_left _ (List.mem_append_left _ (List.mem_append_left _ (List.mem_of_getElem? (i := 0) rfl)))))
  have inX0 : ∀ w ∈ wsX00, w ∈ wsX0_seek := fun w h => List.mem_cons_of_mem _ (List.mem_append_left _ (List.mem_append_right _ h))
  have lf18 := hts (.fieldLink RX0 18 "PalaceOfRooms$Codes" "trial" "[I") (List.mem_cons_of_mem _ (List.mem_append_left _ (List.mem_append_left _ (List.mem_append_left _ (List.mem_of_getElem? (i := 1) rfl)))))
  have lf21 := hts (.fieldLink RX0 21 "PalaceOfRooms$Codes" "best" "[I") (List.mem_cons_of_mem _ (List.mem_append_left _ (List.mem_append_left _ (List.mem_append_left _ (List.mem_of_getElem? (i := 2) rfl)))))
  have lf15 := hts (.fieldLink RX0 15 "PalaceOfRooms$Codes" "things" "[I") (List.mem_cons_of_mem _ (List.mem_append_left _ (List.mem_append_left _ (List.mem_append_left _ (List.mem_of_getElem? (i := 7) rfl)))))
  subst hsz
  have hD := hD0.self (sz := s.heap.size)
  generalize hAe : va_A (wCod cI cZ cQ a ali thi ctr cbe har mar tol) s.heap.size = A at hD ⊢
  have hA : ∀ q : Nat, s.heap.size ≤ q → A q := fun q h => by rw [← hAe]; exact Or.inr h
  have hS : va_S A s.heap s.heap [] := va_S.rf
  have hl := lv_entry ([.ref (a 28), .int fi, .int n, .int us, .int ha]) (n := 6) (Nat.le_of_ble_eq_true rfl)
  rw [lg_entry_eq]
  generalize (lg_sl ([.ref (a 28), .int fi, .int n, .int us, .int ha]) ++ List.replicate (6 - (lg_sl ([.ref (a 28), .int fi, .int n, .int us, .int ha])).length) Slot.unset).toArray = ls at hl ⊢
  have hl : lv_has ls 6 [(0, .ref (a 28)), (1, .int fi), (2, .int n), (3, .int us), (4, .int ha)] := hl
  refine lv_iload hx hb dX0_seek_0 (lv_at hl 4 rfl) ?_
  refine lv_aload_n hx hb dX0_seek_2 rfl (lv_at hl 0 rfl) ?_
  refine va_get (D := (dC, dI)) (ci := 0) (v := .int har) (C := RX0) (T := TX0) (N := 6) hx hb hts inX0 hown hK hP 0 rfl rfl 5 (by decide) lf34 (fun _ h9 => h9) rfl dX0_seek_3 ?_
  refine lv_icmp_lt (tgt := 10) hx hb dX0_seek_6 (by decide) (fun c1 => ?_) (fun c1 => ?_)
  · have dc1 : ha.toInt < har.toInt := ltC rfl rfl c1
    refine lv_iload_n hx hb dX0_seek_10 rfl (lv_at hl 1 rfl) ?_
    refine lv_iload_n hx hb dX0_seek_11 rfl (lv_at hl 2 rfl) ?_
    refine lv_icmp_ge (tgt := 21) hx hb dX0_seek_12 (by decide) (fun c2 => ?_) (fun c2 => ?_)
    · have dc2 : n.toInt ≤ fi.toInt := leC rfl rfl c2
      refine lv_aload_n hx hb dX0_seek_21 rfl (lv_at hl 0 rfl) ?_
      refine lv_iload hx hb dX0_seek_22 (lv_at hl 4 rfl) ?_
      refine va_put (D := (dC, dI)) (ci := 0) (v := .int ha) (ty := .int) (C := RX0) (T := TX0) (N := 6) hx hb hts inX0 tyX0 tyX0_ok nmX0 hown hK hP hD hS 0 rfl rfl 5 (by decide) lf34 (fun _ h9 => h9) rfl (by decide +kernel) rfl rfl (Nat.le_of_ble_eq_true rfl) dX0_seek_24 (fun H locs hP hD hS => ?_)
      have hP : va_P (dC, dI) vwCl (wCod cI cZ cQ a ali thi ctr cbe ha mar tol) H := hP
      have hD : va_D A (wCod cI cZ cQ a ali thi ctr cbe ha mar tol) := hD
      refine lv_aload_n hx hb dX0_seek_27 rfl (lv_at hl 0 rfl) ?_
      refine va_get (D := (dC, dI)) (ci := 0) (v := .ref (a 31)) (C := RX0) (T := TX0) (N := 6) hx hb hts inX0 hown hK hP 0 rfl rfl 3 (by decide) lf18 (fun _ h9 => h9) rfl dX0_seek_28 ?_
      refine lv_iconst (v := 0) hx hb dX0_seek_31 (by decide) ?_
      refine lv_aload_n hx hb dX0_seek_32 rfl (lv_at hl 0 rfl) ?_
      refine va_get (D := (dC, dI)) (ci := 0) (v := .ref (a 32)) (C := RX0) (T := TX0) (N := 6) hx hb hts inX0 hown hK hP 0 rfl rfl 4 (by decide) lf21 (fun _ h9 => h9) rfl dX0_seek_33 ?_
      refine lv_iconst (v := 0) hx hb dX0_seek_36 (by decide) ?_
      refine lv_bipush (v := 6) hx hb dX0_seek_37 (by decide) ?_
      refine va_copyi (ty := .int) (n := 6) hx hb (by rw [hml]; exact hl.1.symm) hown (hts (.methodLink RX0 28 arraycopyName) (List.mem_cons_of_mem _ (List.mem_append_left _ (List.mem_append_left _ (List.mem_append_left _ (List.mem_of_getElem? (i := 3) rfl)))))) (hts (.native arraycopyName) (List.mem_cons_of_mem _ (List.mem_append_left _ (List.mem_append_left _ (List.mem_append_left _ (List.mem_of_getElem? (i := 4) rfl)))))) (hts (.static arraycopyName) (List.mem_cons_of_mem _ (List.mem_append_left _ (List.mem_append_left _ (List.mem_append_left _ (List.mem_of_getElem? (i := 5) rfl)))))) (hts (.initialized "java/lang/System") (List.mem_cons_of_mem _ (List.mem_append_left _ (List.mem_append_left _ (List.mem_append_left _ (List.mem_of_getElem? (i := 6) rfl)))))) hK hP hD hS 3 4 0 0 rfl rfl rfl rfl rfl (by decide) (by decide) (by decide) (by decide) (by decide) (fun _ _ => rfl) (Nat.le_of_ble_eq_true rfl) (Nat.le_of_ble_eq_true rfl) dX0_seek_39 (fun H locs hP hD hS => ?_)
      obtain ⟨cbe_u3, ecbe_u3⟩ : ∃ f : Nat → Int32, f = va_cpy ctr cbe 0 0 6 := ⟨_, rfl⟩
      have hP : va_P (dC, dI) vwCl (wCod cI cZ cQ a ali thi ctr cbe_u3 ha mar tol) H := by rw [ecbe_u3]; exact hP
      have hD : va_D A (wCod cI cZ cQ a ali thi ctr cbe_u3 ha mar tol) := by rw [ecbe_u3]; exact hD
      exact W.vret hx hb hr (fun t ht hW => ⟨⟨(uS [ctr, cbe_u3, (fun _ => ha)] 0 (fun _ => 0)), rfl, r_ctr, by rw [ht]; exact hP, hD⟩, hS.F ht⟩) hS.2.2 dX0_seek_42
    · have dc2 : fi.toInt < n.toInt := nleC rfl rfl c2
      refine lv_iload_n hx hb dX0_seek_15 rfl (lv_at hl 1 rfl) ?_
      refine lv_bipush (v := 6) hx hb dX0_seek_16 (by decide) ?_
      refine lv_icmp_lt (tgt := 43) hx hb dX0_seek_18 (by decide) (fun c4 => ?_) (fun c4 => ?_)
      · have dc4 : fi.toInt < 6 := ltC rfl (show (6 : Int32).toInt = 6 from rfl) c4
        refine lv_iconst (v := 0) hx hb dX0_seek_43 (by decide) ?_
        refine lv_istore (lv' := [(5, .int 0), (0, .ref (a 28)), (1, .int fi), (2, .int n), (3, .int us), (4, .int ha)]) hx hb dX0_seek_44 hl (by decide) rfl (fun ls hl => ?_)
        have L46 : ∀ (nn : Nat) (y46_5 : Int32) (ctr_46 : Nat → Int32) (cbe_46 : Nat → Int32) (har_46 : Int32) (H : Heap) (locs : List Loc) (ls : Array Slot), (rg 6 (0) (23) ctr_46) → (0 ≤ (y46_5.toInt)) → ((y46_5.toInt) ≤ 6) → (6 - (y46_5.toInt)).toNat < nn → va_P (dC, dI) vwCl (wCod cI cZ cQ a ali thi ctr_46 cbe_46 har_46 mar tol) H → va_D A (wCod cI cZ cQ a ali thi ctr_46 cbe_46 har_46 mar tol) → va_S A s.heap H locs → lv_has ls 6 [(0, .ref (a 28)), (1, .int fi), (2, .int n), (3, .int us), (4, .int ha), (5, .int y46_5)] → W p l e (headSpec wsX0_seek { frames := 4, cells := 0, slots := 0, locals := 90 }).room s m ([.ref (a 28), .int fi, .int n, .int us, .int ha] : List Value).toArray below meth c H locs 0 0 (MQ below (va_Qv (fun (u : US) => (rg 6 (0) (23) (u.1 0))) (Bw (dC, dI) A (fun u : US => (wCod cI cZ cQ a ali thi (u.1 0) (u.1 1) (u.1 2 0) mar tol))) A) ([.ref (a 28), .int fi, .int n, .int us, .int ha] : List Value).toArray s 0 0 A) (F0 m 46 ls []) := by
          intro nn
          induction nn with
          | zero =>
            intro y46_5 ctr_46 cbe_46 har_46 H locs ls r_ctr_46 i46_0 i46_1 hm
            exact absurd hm (Nat.not_lt_zero _)
          | succ nn ih46 =>
            intro y46_5 ctr_46 cbe_46 har_46 H locs ls r_ctr_46 i46_0 i46_1 hm hP hD hS hl
            refine lv_iload hx hb dX0_seek_46 (lv_at hl 5 rfl) ?_
            refine lv_iload_n hx hb dX0_seek_48 rfl (lv_at hl 2 rfl) ?_
            refine lv_icmp_ge (tgt := 102) hx hb dX0_seek_49 (by decide) (fun c5 => ?_) (fun c5 => ?_)
            · have dc5 : n.toInt ≤ y46_5.toInt := leC rfl rfl c5
              exact W.vret hx hb hr (fun t ht hW => ⟨⟨(uS [ctr_46, cbe_46, (fun _ => har_46)] 0 (fun _ => 0)), rfl, r_ctr_46, by rw [ht]; exact hP, hD⟩, hS.F ht⟩) hS.2.2 dX0_seek_102
            · have dc5 : y46_5.toInt < n.toInt := nleC rfl rfl c5
              refine lv_iload_n hx hb dX0_seek_52 rfl (lv_at hl 3 rfl) ?_
              refine lv_iload hx hb dX0_seek_53 (lv_at hl 5 rfl) ?_
              refine lv_ishr hx hb dX0_seek_55 ?_
              refine lv_iconst (v := 1) hx hb dX0_seek_56 (by decide) ?_
              refine lv_iand hx hb dX0_seek_57 ?_
              have f6 := andR (a := (us >>> (y46_5 &&& 31))) (m := 1) (M := 1) rfl (by decide)
              refine lv_if_ne (tgt := 96) hx hb dX0_seek_58 (by decide) (fun c7 => ?_) (fun c7 => ?_)
              · have dc7 : ((us >>> (y46_5 &&& 31)) &&& 1).toInt ≠ 0 := neC rfl (show (0 : Int32).toInt = 0 from rfl) c7
                obtain ⟨z8, ez8⟩ : ∃ y : Int32, y = y46_5 + 1 := ⟨_, rfl⟩
                have iz8 : z8.toInt = y46_5.toInt + 1 := by rw [ez8]; exact addC rfl rfl (by omega) (by omega)
                refine lv_iinc (v := z8) (lv' := [(5, .int z8), (0, .ref (a 28)), (1, .int fi), (2, .int n), (3, .int us), (4, .int ha)]) hx hb dX0_seek_96 hl (k := 5) rfl (by rw [ez8]; rfl) (by decide) rfl (fun ls hl => ?_)
                refine lv_goto (tgt := 46) hx hb dX0_seek_99 (by decide) ?_
                exact ih46 z8 ctr_46 cbe_46 har_46 _ _ _ r_ctr_46 (by omega) (by omega) (by omega) hP hD hS (lv_sub hl [1, 2, 3, 4, 5, 0] rfl)
              · have dc7 : ((us >>> (y46_5 &&& 31)) &&& 1).toInt = 0 := eqC rfl (show (0 : Int32).toInt = 0 from rfl) c7
                refine lv_aload_n hx hb dX0_seek_61 rfl (lv_at hl 0 rfl) ?_
                refine va_get (D := (dC, dI)) (ci := 0) (v := .ref (a 31)) (C := RX0) (T := TX0) (N := 6) hx hb hts inX0 hown hK hP 0 rfl rfl 3 (by decide) lf18 (fun _ h9 => h9) rfl dX0_seek_62 ?_
                refine lv_iload_n hx hb dX0_seek_65 rfl (lv_at hl 1 rfl) ?_
                refine lv_aload_n hx hb dX0_seek_66 rfl (lv_at hl 0 rfl) ?_
                refine va_get (D := (dC, dI)) (ci := 0) (v := .ref (a 30)) (C := RX0) (T := TX0) (N := 6) hx hb hts inX0 hown hK hP 0 rfl rfl 2 (by decide) lf15 (fun _ h9 => h9) rfl dX0_seek_67 ?_
                refine lv_iload hx hb dX0_seek_70 (lv_at hl 5 rfl) ?_
                have b9 : vp_in y46_5 8 := inC rfl (by omega) (by omega)
                refine va_iald hx hb hK hP 2 0 rfl rfl b9 dX0_seek_72 ?_
                have g10 : 0 ≤ (thi y46_5.toNatClampNeg).toInt ∧ (thi y46_5.toNatClampNeg).toInt ≤ 23 := rg_at r_thi b9
                refine lv_topi (fun x11 ex11 => ?_)
                have ix11 : x11.toInt = (thi y46_5.toNatClampNeg).toInt := by rw [ex11]
                have b12 : vp_in fi 6 := inC rfl (by omega) (by omega)
                have g13 : rg 6 (0) (23) (upd ctr_46 fi.toNatClampNeg x11) := rg_upd r_ctr_46 rfl (by omega) (by omega)
                refine va_iast hx hb hK hP hD hS 3 0 rfl rfl b12 dX0_seek_73 (fun H locs hP hD hS => ?_)
                obtain ⟨ctr_u14, ectr_u14⟩ : ∃ f : Nat → Int32, f = upd ctr_46 fi.toNatClampNeg x11 := ⟨_, rfl⟩
                have rctr_u14 : rg 6 (0) (23) ctr_u14 := by rw [ectr_u14]; exact g13
                have hP : va_P (dC, dI) vwCl (wCod cI cZ cQ a ali thi ctr_u14 cbe_46 har_46 mar tol) H := by rw [ectr_u14]; exact hP
                have hD : va_D A (wCod cI cZ cQ a ali thi ctr_u14 cbe_46 har_46 mar tol) := by rw [ectr_u14]; exact hD
                refine lv_aload_n hx hb dX0_seek_74 rfl (lv_at hl 0 rfl) ?_
                refine lv_iload_n hx hb dX0_seek_75 rfl (lv_at hl 1 rfl) ?_
                refine lv_iconst (v := 1) hx hb dX0_seek_76 (by decide) ?_
                refine lv_iadd hx hb dX0_seek_77 ?_
                have f15 : (fi + 1).toInt = (fi.toInt) + (1) := addC rfl (show (1 : Int32).toInt = 1 from rfl) (by omega) (by omega)
                refine lv_iload_n hx hb dX0_seek_78 rfl (lv_at hl 2 rfl) ?_
                refine lv_iload_n hx hb dX0_seek_79 rfl (lv_at hl 3 rfl) ?_
                refine lv_iconst (v := 1) hx hb dX0_seek_80 (by decide) ?_
                refine lv_iload hx hb dX0_seek_81 (lv_at hl 5 rfl) ?_
                refine lv_ishl hx hb dX0_seek_83 ?_
                have f16 : 1 ≤ ((1 : Int32) <<< (y46_5 &&& 31)).toInt ∧ ((1 : Int32) <<< (y46_5 &&& 31)).toInt ≤ 32 := shl1 rfl (by omega) 5 (by omega) (by decide)
                refine lv_ior hx hb dX0_seek_84 ?_
                refine lv_iload hx hb dX0_seek_85 (lv_at hl 4 rfl) ?_
                refine lv_aload_n hx hb dX0_seek_87 rfl (lv_at hl 0 rfl) ?_
                refine lv_iload_n hx hb dX0_seek_88 rfl (lv_at hl 1 rfl) ?_
                refine rdV (As := [.int fi]) (rest := [.int ha, .int (us ||| ((1 : Int32) <<< (y46_5 &&& 31))), .int n, .int (fi + 1), .ref (a 28)]) ⟨hx, hb, hml, hown, hts⟩ (k_X0_harmOf l dC dI cI cZ cQ a ali thi ctr_u14 cbe_46 har_46 mar tol fi r_thi rctr_u14 r_mar r_tol (by omega) (by omega)) (cwV 1 hts gX0_seek_X0_harmOf rfl rfl rfl (by decide +kernel) ⟨Nat.le_of_ble_eq_true rfl, Nat.le_of_ble_eq_true rfl⟩) hP hK hN [0, 1, 2, 3, 4, 5, 6, 7] rfl 0 0 rfl rfl rfl hl.1 rfl (Nat.le_of_ble_eq_true rfl) dX0_seek_89 ⟨Nat.le_of_ble_eq_true rfl, Nat.le_of_ble_eq_true rfl⟩ (fun r17 h18 => ?_)
                have h18 : True := h18
                refine lv_iadd hx hb dX0_seek_92 ?_
                refine wvV (As := [.int (fi + 1), .int n, .int (us ||| ((1 : Int32) <<< (y46_5 &&& 31))), .int (ha + r17)]) (rest := []) (wr := []) (w2 := (fun u : US => (wCod cI cZ cQ a ali thi (u.1 0) (u.1 1) (u.1 2 0) mar tol))) ⟨hx, hb, hml, hown, hts⟩ (k_X0_seek_0 l dC dI cI cZ cQ a ali thi ctr_u14 cbe_46 har_46 mar tol _ (fi + 1) n (us ||| ((1 : Int32) <<< (y46_5 &&& 31))) (ha + r17) r_thi rctr_u14 r_mar r_tol (by omega) (by omega) (by omega) (by omega)) (cwV 4 hts gX0_seek_X0_seek rfl rfl rfl (by decide +kernel) ⟨Nat.le_of_ble_eq_true rfl, Nat.le_of_ble_eq_true rfl⟩) hP hD hS hA hK hN [0, 1, 2, 3, 4, 5, 6, 7] [] [0, 1, 2, 3, 4, 5, 6, 7] rfl rfl (by decide) (by decide) (by decide) (fun _ => rfl) (by decide) 0 0 rfl rfl rfl hl.1 rfl (Nat.le_of_ble_eq_true rfl) dX0_seek_93 ⟨Nat.le_of_ble_eq_true rfl, Nat.le_of_ble_eq_true rfl⟩ (fun u21 H locs h20 hP hD hS => ?_)
                obtain ⟨ctr_c22, ectr_c22⟩ : ∃ f : Nat → Int32, f = (u21.1 0) := ⟨_, rfl⟩
                obtain ⟨cbe_c23, ecbe_c23⟩ : ∃ f : Nat → Int32, f = (u21.1 1) := ⟨_, rfl⟩
                obtain ⟨har_c24, ehar_c24⟩ : ∃ f : Int32, f = (u21.1 2 0) := ⟨_, rfl⟩
                have hP : va_P (dC, dI) vwCl (wCod cI cZ cQ a ali thi ctr_c22 cbe_c23 har_c24 mar tol) H := by rw [ectr_c22, ecbe_c23, ehar_c24]; exact hP
                have hD : va_D A (wCod cI cZ cQ a ali thi ctr_c22 cbe_c23 har_c24 mar tol) := by rw [ectr_c22, ecbe_c23, ehar_c24]; exact hD
                have h20 : (rg 6 (0) (23) ctr_c22) := by (try rw [ectr_c22]); (try rw [ecbe_c23]); (try rw [ehar_c24]); exact h20
                have h20_0 := h20
                obtain ⟨z25, ez25⟩ : ∃ y : Int32, y = y46_5 + 1 := ⟨_, rfl⟩
                have iz25 : z25.toInt = y46_5.toInt + 1 := by rw [ez25]; exact addC rfl rfl (by omega) (by omega)
                refine lv_iinc (v := z25) (lv' := [(5, .int z25), (0, .ref (a 28)), (1, .int fi), (2, .int n), (3, .int us), (4, .int ha)]) hx hb dX0_seek_96 hl (k := 5) rfl (by rw [ez25]; rfl) (by decide) rfl (fun ls hl => ?_)
                refine lv_goto (tgt := 46) hx hb dX0_seek_99 (by decide) ?_
                exact ih46 z25 ctr_c22 cbe_c23 har_c24 _ _ _ h20_0 (by omega) (by omega) (by omega) hP hD hS (lv_sub hl [1, 2, 3, 4, 5, 0] rfl)
        have kc26 : (0 : Int32).toInt = 0 := rfl
        exact L46 _ 0 ctr cbe har _ _ _ r_ctr (by omega) (by omega) (Nat.lt_succ_self _) hP hD hS (lv_sub hl [1, 2, 3, 4, 5, 0] rfl)
      · have dc4 : 6 ≤ fi.toInt := nltC rfl (show (6 : Int32).toInt = 6 from rfl) c4
        exfalso
        omega
  · have dc1 : har.toInt ≤ ha.toInt := nltC rfl rfl c1
    exact W.vret hx hb hr (fun t ht hW => ⟨⟨(uS [ctr, cbe, (fun _ => har)] 0 (fun _ => 0)), rfl, r_ctr, by rw [ht]; exact hP, hD⟩, hS.F ht⟩) hS.2.2 dX0_seek_9
set_option maxHeartbeats 4000000 in
set_option maxRecDepth 100000 in
theorem k_X0_seek_2 (l : Launch) (dC : Nat → ClassId) (dI : Nat → Nat → Nat) (cI cZ cQ : ClassId) (a : Nat → Nat) (ali : Nat → Int32) (thi : Nat → Int32) (ctr : Nat → Int32) (cbe : Nat → Int32) (har : Int32) (mar : Nat → Int32) (tol : Nat → Int32) (sz : Nat) (fi : Int32) (n : Int32) (us : Int32) (ha : Int32) (r_thi : rg 8 (0) (23) thi) (r_ctr : rg 6 (0) (23) ctr) (r_mar : rg 24 (0) (255) mar) (r_tol : rg 8 (0) (23) tol) (q0 : 4 ≤ fi.toInt) (q1 : fi.toInt ≤ 6) (q2 : 2 ≤ n.toInt) (q3 : n.toInt ≤ 6) : KV l yX0_seek wsX0_seek { frames := 5, cells := 0, slots := 0, locals := 115 } (dC, dI) (TY cI cZ cQ) (wCod cI cZ cQ a ali thi ctr cbe har mar tol) [.ref (a 28), .int fi, .int n, .int us, .int ha] sz 0 0 (fun (u : US) => (rg 6 (0) (23) (u.1 0))) (fun u : US => (wCod cI cZ cQ a ali thi (u.1 0) (u.1 1) (u.1 2 0) mar tol)) := by
  refine Met.ofW (cc := cX0_seek) (maxL := 6) (ret := none) (by decide) rfl ?_
  intro p e s m args below meth c s₁ B hml hv
  obtain ⟨rfl, hsz, hP, hK, hD0, hN⟩ := hv
  have hx := B.exec
  have hb := B.bytes
  have hr := B.returns
  have hts := atoms_spec (ws := wsX0_seek) B.pre
  have hown : s.vm.findClass RX0 = some m.cls := findClass_of_methodNamed B.named
  have hlocks := B.notSynchronized
  have lf34 := hts (.fieldLink RX0 34 "PalaceOfRooms$Codes" "bestHarm" "I") (List.mem_cons_of_mem _ (List.mem_append_left _ (List.mem_append_left _ (List.mem_append_left _ (List.mem_of_getElem? (i := 0) rfl)))))
  have inX0 : ∀ w ∈ wsX00, w ∈ wsX0_seek := fun w h => List.mem_cons_of_mem _ (List.mem_append_left _ (List.mem_append_right _ h))
  have lf18 := hts (.fieldLink RX0 18 "PalaceOfRooms$Codes" "trial" "[I") (List.mem_cons_of_mem _ (List.mem_append_left _ (List.mem_append_left _ (List.mem_append_left _ (List.mem_of_getElem? (i := 1) rfl)))))
  have lf21 := hts (.fieldLink RX0 21 "PalaceOfRooms$Codes" "best" "[I") (List.mem_cons_of_mem _ (List.mem_append_left _ (List.mem_append_left _ (List.mem_append_left _ (List.mem_of_getElem? (i := 2) rfl)))))
  have lf15 := hts (.fieldLink RX0 15 "PalaceOfRooms$Codes" "things" "[I") (List.mem_cons_of_mem _ (List.mem_append_left _ (List.mem_append_left _ (List.mem_append_left _ (List.mem_of_getElem? (i := 7) rfl)))))
  subst hsz
  have hD := hD0.self (sz := s.heap.size)
  generalize hAe : va_A (wCod cI cZ cQ a ali thi ctr cbe har mar tol) s.heap.size = A at hD ⊢
  have hA : ∀ q : Nat, s.heap.size ≤ q → A q := fun q h => by rw [← hAe]; exact Or.inr h
  have hS : va_S A s.heap s.heap [] := va_S.rf
  have hl := lv_entry ([.ref (a 28), .int fi, .int n, .int us, .int ha]) (n := 6) (Nat.le_of_ble_eq_true rfl)
  rw [lg_entry_eq]
  generalize (lg_sl ([.ref (a 28), .int fi, .int n, .int us, .int ha]) ++ List.replicate (6 - (lg_sl ([.ref (a 28), .int fi, .int n, .int us, .int ha])).length) Slot.unset).toArray = ls at hl ⊢
  have hl : lv_has ls 6 [(0, .ref (a 28)), (1, .int fi), (2, .int n), (3, .int us), (4, .int ha)] := hl
  refine lv_iload hx hb dX0_seek_0 (lv_at hl 4 rfl) ?_
  refine lv_aload_n hx hb dX0_seek_2 rfl (lv_at hl 0 rfl) ?_
  refine va_get (D := (dC, dI)) (ci := 0) (v := .int har) (C := RX0) (T := TX0) (N := 6) hx hb hts inX0 hown hK hP 0 rfl rfl 5 (by decide) lf34 (fun _ h9 => h9) rfl dX0_seek_3 ?_
  refine lv_icmp_lt (tgt := 10) hx hb dX0_seek_6 (by decide) (fun c1 => ?_) (fun c1 => ?_)
  · have dc1 : ha.toInt < har.toInt := ltC rfl rfl c1
    refine lv_iload_n hx hb dX0_seek_10 rfl (lv_at hl 1 rfl) ?_
    refine lv_iload_n hx hb dX0_seek_11 rfl (lv_at hl 2 rfl) ?_
    refine lv_icmp_ge (tgt := 21) hx hb dX0_seek_12 (by decide) (fun c2 => ?_) (fun c2 => ?_)
    · have dc2 : n.toInt ≤ fi.toInt := leC rfl rfl c2
      refine lv_aload_n hx hb dX0_seek_21 rfl (lv_at hl 0 rfl) ?_
      refine lv_iload hx hb dX0_seek_22 (lv_at hl 4 rfl) ?_
      refine va_put (D := (dC, dI)) (ci := 0) (v := .int ha) (ty := .int) (C := RX0) (T := TX0) (N := 6) hx hb hts inX0 tyX0 tyX0_ok nmX0 hown hK hP hD hS 0 rfl rfl 5 (by decide) lf34 (fun _ h9 => h9) rfl (by decide +kernel) rfl rfl (Nat.le_of_ble_eq_true rfl) dX0_seek_24 (fun H locs hP hD hS => ?_)
      have hP : va_P (dC, dI) vwCl (wCod cI cZ cQ a ali thi ctr cbe ha mar tol) H := hP
      have hD : va_D A (wCod cI cZ cQ a ali thi ctr cbe ha mar tol) := hD
      refine lv_aload_n hx hb dX0_seek_27 rfl (lv_at hl 0 rfl) ?_
      refine va_get (D := (dC, dI)) (ci := 0) (v := .ref (a 31)) (C := RX0) (T := TX0) (N := 6) hx hb hts inX0 hown hK hP 0 rfl rfl 3 (by decide) lf18 (fun _ h9 => h9) rfl dX0_seek_28 ?_
      refine lv_iconst (v := 0) hx hb dX0_seek_31 (by decide) ?_
      refine lv_aload_n hx hb dX0_seek_32 rfl (lv_at hl 0 rfl) ?_
      refine va_get (D := (dC, dI)) (ci := 0) (v := .ref (a 32)) (C := RX0) (T := TX0) (N := 6) hx hb hts inX0 hown hK hP 0 rfl rfl 4 (by decide) lf21 (fun _ h9 => h9) rfl dX0_seek_33 ?_
      refine lv_iconst (v := 0) hx hb dX0_seek_36 (by decide) ?_
      refine lv_bipush (v := 6) hx hb dX0_seek_37 (by decide) ?_
      refine va_copyi (ty := .int) (n := 6) hx hb (by rw [hml]; exact hl.1.symm) hown (hts (.methodLink RX0 28 arraycopyName) (List.mem_cons_of_mem _ (List.mem_append_left _ (List.mem_append_left _ (List.mem_append_left _ (List.mem_of_getElem? (i := 3) rfl)))))) (hts (.native arraycopyName) (List.mem_cons_of_mem _ (List.mem_append_left _ (List.mem_append_left _ (List.mem_append_left _ (List.mem_of_getElem? (i := 4) rfl)))))) (hts (.static arraycopyName) (List.mem_cons_of_mem _ (List.mem_append_left _ (List.mem_append_left _ (List.mem_append_left _ (List.mem_of_getElem? (i := 5) rfl)))))) (hts (.initialized "java/lang/System") (List.mem_cons_of_mem _ (List.mem_append_left _ (List.mem_append_left _ (List.mem_append_left _ (List.mem_of_getElem? (i := 6) rfl)))))) hK hP hD hS 3 4 0 0 rfl rfl rfl rfl rfl (by decide) (by decide) (by decide) (by decide) (by decide) (fun _ _ => rfl) (Nat.le_of_ble_eq_true rfl) (Nat.le_of_ble_eq_true rfl) dX0_seek_39 (fun H locs hP hD hS => ?_)
      obtain ⟨cbe_u3, ecbe_u3⟩ : ∃ f : Nat → Int32, f = va_cpy ctr cbe 0 0 6 := ⟨_, rfl⟩
      have hP : va_P (dC, dI) vwCl (wCod cI cZ cQ a ali thi ctr cbe_u3 ha mar tol) H := by rw [ecbe_u3]; exact hP
      have hD : va_D A (wCod cI cZ cQ a ali thi ctr cbe_u3 ha mar tol) := by rw [ecbe_u3]; exact hD
      exact W.vret hx hb hr (fun t ht hW => ⟨⟨(uS [ctr, cbe_u3, (fun _ => ha)] 0 (fun _ => 0)), rfl, r_ctr, by rw [ht]; exact hP, hD⟩, hS.F ht⟩) hS.2.2 dX0_seek_42
    · have dc2 : fi.toInt < n.toInt := nleC rfl rfl c2
      refine lv_iload_n hx hb dX0_seek_15 rfl (lv_at hl 1 rfl) ?_
      refine lv_bipush (v := 6) hx hb dX0_seek_16 (by decide) ?_
      refine lv_icmp_lt (tgt := 43) hx hb dX0_seek_18 (by decide) (fun c4 => ?_) (fun c4 => ?_)
      · have dc4 : fi.toInt < 6 := ltC rfl (show (6 : Int32).toInt = 6 from rfl) c4
        refine lv_iconst (v := 0) hx hb dX0_seek_43 (by decide) ?_
        refine lv_istore (lv' := [(5, .int 0), (0, .ref (a 28)), (1, .int fi), (2, .int n), (3, .int us), (4, .int ha)]) hx hb dX0_seek_44 hl (by decide) rfl (fun ls hl => ?_)
        have L46 : ∀ (nn : Nat) (y46_5 : Int32) (ctr_46 : Nat → Int32) (cbe_46 : Nat → Int32) (har_46 : Int32) (H : Heap) (locs : List Loc) (ls : Array Slot), (rg 6 (0) (23) ctr_46) → (0 ≤ (y46_5.toInt)) → ((y46_5.toInt) ≤ 6) → (6 - (y46_5.toInt)).toNat < nn → va_P (dC, dI) vwCl (wCod cI cZ cQ a ali thi ctr_46 cbe_46 har_46 mar tol) H → va_D A (wCod cI cZ cQ a ali thi ctr_46 cbe_46 har_46 mar tol) → va_S A s.heap H locs → lv_has ls 6 [(0, .ref (a 28)), (1, .int fi), (2, .int n), (3, .int us), (4, .int ha), (5, .int y46_5)] → W p l e (headSpec wsX0_seek { frames := 5, cells := 0, slots := 0, locals := 115 }).room s m ([.ref (a 28), .int fi, .int n, .int us, .int ha] : List Value).toArray below meth c H locs 0 0 (MQ below (va_Qv (fun (u : US) => (rg 6 (0) (23) (u.1 0))) (Bw (dC, dI) A (fun u : US => (wCod cI cZ cQ a ali thi (u.1 0) (u.1 1) (u.1 2 0) mar tol))) A) ([.ref (a 28), .int fi, .int n, .int us, .int ha] : List Value).toArray s 0 0 A) (F0 m 46 ls []) := by
          intro nn
          induction nn with
          | zero =>
            intro y46_5 ctr_46 cbe_46 har_46 H locs ls r_ctr_46 i46_0 i46_1 hm
            exact absurd hm (Nat.not_lt_zero _)
          | succ nn ih46 =>
            intro y46_5 ctr_46 cbe_46 har_46 H locs ls r_ctr_46 i46_0 i46_1 hm hP hD hS hl
            refine lv_iload hx hb dX0_seek_46 (lv_at hl 5 rfl) ?_
            refine lv_iload_n hx hb dX0_seek_48 rfl (lv_at hl 2 rfl) ?_
            refine lv_icmp_ge (tgt := 102) hx hb dX0_seek_49 (by decide) (fun c5 => ?_) (fun c5 => ?_)
            · have dc5 : n.toInt ≤ y46_5.toInt := leC rfl rfl c5
              exact W.vret hx hb hr (fun t ht hW => ⟨⟨(uS [ctr_46, cbe_46, (fun _ => har_46)] 0 (fun _ => 0)), rfl, r_ctr_46, by rw [ht]; exact hP, hD⟩, hS.F ht⟩) hS.2.2 dX0_seek_102
            · have dc5 : y46_5.toInt < n.toInt := nleC rfl rfl c5
              refine lv_iload_n hx hb dX0_seek_52 rfl (lv_at hl 3 rfl) ?_
              refine lv_iload hx hb dX0_seek_53 (lv_at hl 5 rfl) ?_
              refine lv_ishr hx hb dX0_seek_55 ?_
              refine lv_iconst (v := 1) hx hb dX0_seek_56 (by decide) ?_
              refine lv_iand hx hb dX0_seek_57 ?_
              have f6 := andR (a := (us >>> (y46_5 &&& 31))) (m := 1) (M := 1) rfl (by decide)
              refine lv_if_ne (tgt := 96) hx hb dX0_seek_58 (by decide) (fun c7 => ?_) (fun c7 => ?_)
              · have dc7 : ((us >>> (y46_5 &&& 31)) &&& 1).toInt ≠ 0 := neC rfl (show (0 : Int32).toInt = 0 from rfl) c7
                obtain ⟨z8, ez8⟩ : ∃ y : Int32, y = y46_5 + 1 := ⟨_, rfl⟩
                have iz8 : z8.toInt = y46_5.toInt + 1 := by rw [ez8]; exact addC rfl rfl (by omega) (by omega)
                refine lv_iinc (v := z8) (lv' := [(5, .int z8), (0, .ref (a 28)), (1, .int fi), (2, .int n), (3, .int us), (4, .int ha)]) hx hb dX0_seek_96 hl (k := 5) rfl (by rw [ez8]; rfl) (by decide) rfl (fun ls hl => ?_)
                refine lv_goto (tgt := 46) hx hb dX0_seek_99 (by decide) ?_
                exact ih46 z8 ctr_46 cbe_46 har_46 _ _ _ r_ctr_46 (by omega) (by omega) (by omega) hP hD hS (lv_sub hl [1, 2, 3, 4, 5, 0] rfl)
              · have dc7 : ((us >>> (y46_5 &&& 31)) &&& 1).toInt = 0 := eqC rfl (show (0 : Int32).toInt = 0 from rfl) c7
                refine lv_aload_n hx hb dX0_seek_61 rfl (lv_at hl 0 rfl) ?_
                refine va_get (D := (dC, dI)) (ci := 0) (v := .ref (a 31)) (C := RX0) (T := TX0) (N := 6) hx hb hts inX0 hown hK hP 0 rfl rfl 3 (by decide) lf18 (fun _ h9 => h9) rfl dX0_seek_62 ?_
                refine lv_iload_n hx hb dX0_seek_65 rfl (lv_at hl 1 rfl) ?_
                refine lv_aload_n hx hb dX0_seek_66 rfl (lv_at hl 0 rfl) ?_
                refine va_get (D := (dC, dI)) (ci := 0) (v := .ref (a 30)) (C := RX0) (T := TX0) (N := 6) hx hb hts inX0 hown hK hP 0 rfl rfl 2 (by decide) lf15 (fun _ h9 => h9) rfl dX0_seek_67 ?_
                refine lv_iload hx hb dX0_seek_70 (lv_at hl 5 rfl) ?_
                have b9 : vp_in y46_5 8 := inC rfl (by omega) (by omega)
                refine va_iald hx hb hK hP 2 0 rfl rfl b9 dX0_seek_72 ?_
                have g10 : 0 ≤ (thi y46_5.toNatClampNeg).toInt ∧ (thi y46_5.toNatClampNeg).toInt ≤ 23 := rg_at r_thi b9
                refine lv_topi (fun x11 ex11 => ?_)
                have ix11 : x11.toInt = (thi y46_5.toNatClampNeg).toInt := by rw [ex11]
                have b12 : vp_in fi 6 := inC rfl (by omega) (by omega)
                have g13 : rg 6 (0) (23) (upd ctr_46 fi.toNatClampNeg x11) := rg_upd r_ctr_46 rfl (by omega) (by omega)
                refine va_iast hx hb hK hP hD hS 3 0 rfl rfl b12 dX0_seek_73 (fun H locs hP hD hS => ?_)
                obtain ⟨ctr_u14, ectr_u14⟩ : ∃ f : Nat → Int32, f = upd ctr_46 fi.toNatClampNeg x11 := ⟨_, rfl⟩
                have rctr_u14 : rg 6 (0) (23) ctr_u14 := by rw [ectr_u14]; exact g13
                have hP : va_P (dC, dI) vwCl (wCod cI cZ cQ a ali thi ctr_u14 cbe_46 har_46 mar tol) H := by rw [ectr_u14]; exact hP
                have hD : va_D A (wCod cI cZ cQ a ali thi ctr_u14 cbe_46 har_46 mar tol) := by rw [ectr_u14]; exact hD
                refine lv_aload_n hx hb dX0_seek_74 rfl (lv_at hl 0 rfl) ?_
                refine lv_iload_n hx hb dX0_seek_75 rfl (lv_at hl 1 rfl) ?_
                refine lv_iconst (v := 1) hx hb dX0_seek_76 (by decide) ?_
                refine lv_iadd hx hb dX0_seek_77 ?_
                have f15 : (fi + 1).toInt = (fi.toInt) + (1) := addC rfl (show (1 : Int32).toInt = 1 from rfl) (by omega) (by omega)
                refine lv_iload_n hx hb dX0_seek_78 rfl (lv_at hl 2 rfl) ?_
                refine lv_iload_n hx hb dX0_seek_79 rfl (lv_at hl 3 rfl) ?_
                refine lv_iconst (v := 1) hx hb dX0_seek_80 (by decide) ?_
                refine lv_iload hx hb dX0_seek_81 (lv_at hl 5 rfl) ?_
                refine lv_ishl hx hb dX0_seek_83 ?_
                have f16 : 1 ≤ ((1 : Int32) <<< (y46_5 &&& 31)).toInt ∧ ((1 : Int32) <<< (y46_5 &&& 31)).toInt ≤ 32 := shl1 rfl (by omega) 5 (by omega) (by decide)
                refine lv_ior hx hb dX0_seek_84 ?_
                refine lv_iload hx hb dX0_seek_85 (lv_at hl 4 rfl) ?_
                refine lv_aload_n hx hb dX0_seek_87 rfl (lv_at hl 0 rfl) ?_
                refine lv_iload_n hx hb dX0_seek_88 rfl (lv_at hl 1 rfl) ?_
                refine rdV (As := [.int fi]) (rest := [.int ha, .int (us ||| ((1 : Int32) <<< (y46_5 &&& 31))), .int n, .int (fi + 1), .ref (a 28)]) ⟨hx, hb, hml, hown, hts⟩ (k_X0_harmOf l dC dI cI cZ cQ a ali thi ctr_u14 cbe_46 har_46 mar tol fi r_thi rctr_u14 r_mar r_tol (by omega) (by omega)) (cwV 1 hts gX0_seek_X0_harmOf rfl rfl rfl (by decide +kernel) ⟨Nat.le_of_ble_eq_true rfl, Nat.le_of_ble_eq_true rfl⟩) hP hK hN [0, 1, 2, 3, 4, 5, 6, 7] rfl 0 0 rfl rfl rfl hl.1 rfl (Nat.le_of_ble_eq_true rfl) dX0_seek_89 ⟨Nat.le_of_ble_eq_true rfl, Nat.le_of_ble_eq_true rfl⟩ (fun r17 h18 => ?_)
                have h18 : True := h18
                refine lv_iadd hx hb dX0_seek_92 ?_
                refine wvV (As := [.int (fi + 1), .int n, .int (us ||| ((1 : Int32) <<< (y46_5 &&& 31))), .int (ha + r17)]) (rest := []) (wr := []) (w2 := (fun u : US => (wCod cI cZ cQ a ali thi (u.1 0) (u.1 1) (u.1 2 0) mar tol))) ⟨hx, hb, hml, hown, hts⟩ (k_X0_seek_1 l dC dI cI cZ cQ a ali thi ctr_u14 cbe_46 har_46 mar tol _ (fi + 1) n (us ||| ((1 : Int32) <<< (y46_5 &&& 31))) (ha + r17) r_thi rctr_u14 r_mar r_tol (by omega) (by omega) (by omega) (by omega)) (cwV 4 hts gX0_seek_X0_seek rfl rfl rfl (by decide +kernel) ⟨Nat.le_of_ble_eq_true rfl, Nat.le_of_ble_eq_true rfl⟩) hP hD hS hA hK hN [0, 1, 2, 3, 4, 5, 6, 7] [] [0, 1, 2, 3, 4, 5, 6, 7] rfl rfl (by decide) (by decide) (by decide) (fun _ => rfl) (by decide) 0 0 rfl rfl rfl hl.1 rfl (Nat.le_of_ble_eq_true rfl) dX0_seek_93 ⟨Nat.le_of_ble_eq_true rfl, Nat.le_of_ble_eq_true rfl⟩ (fun u21 H locs h20 hP hD hS => ?_)
                obtain ⟨ctr_c22, ectr_c22⟩ : ∃ f : Nat → Int32, f = (u21.1 0) := ⟨_, rfl⟩
                obtain ⟨cbe_c23, ecbe_c23⟩ : ∃ f : Nat → Int32, f = (u21.1 1) := ⟨_, rfl⟩
                obtain ⟨har_c24, ehar_c24⟩ : ∃ f : Int32, f = (u21.1 2 0) := ⟨_, rfl⟩
                have hP : va_P (dC, dI) vwCl (wCod cI cZ cQ a ali thi ctr_c22 cbe_c23 har_c24 mar tol) H := by rw [ectr_c22, ecbe_c23, ehar_c24]; exact hP
                have hD : va_D A (wCod cI cZ cQ a ali thi ctr_c22 cbe_c23 har_c24 mar tol) := by rw [ectr_c22, ecbe_c23, ehar_c24]; exact hD
                have h20 : (rg 6 (0) (23) ctr_c22) := by (try rw [ectr_c22]); (try rw [ecbe_c23]); (try rw [ehar_c24]); exact h20
                have h20_0 := h20
                obtain ⟨z25, ez25⟩ : ∃ y : Int32, y = y46_5 + 1 := ⟨_, rfl⟩
                have iz25 : z25.toInt = y46_5.toInt + 1 := by rw [ez25]; exact addC rfl rfl (by omega) (by omega)
                refine lv_iinc (v := z25) (lv' := [(5, .int z25), (0, .ref (a 28)), (1, .int fi), (2, .int n), (3, .int us), (4, .int ha)]) hx hb dX0_seek_96 hl (k := 5) rfl (by rw [ez25]; rfl) (by decide) rfl (fun ls hl => ?_)
                refine lv_goto (tgt := 46) hx hb dX0_seek_99 (by decide) ?_
                exact ih46 z25 ctr_c22 cbe_c23 har_c24 _ _ _ h20_0 (by omega) (by omega) (by omega) hP hD hS (lv_sub hl [1, 2, 3, 4, 5, 0] rfl)
        have kc26 : (0 : Int32).toInt = 0 := rfl
        exact L46 _ 0 ctr cbe har _ _ _ r_ctr (by omega) (by omega) (Nat.lt_succ_self _) hP hD hS (lv_sub hl [1, 2, 3, 4, 5, 0] rfl)
      · have dc4 : 6 ≤ fi.toInt := nltC rfl (show (6 : Int32).toInt = 6 from rfl) c4
        exfalso
        omega
  · have dc1 : har.toInt ≤ ha.toInt := nltC rfl rfl c1
    exact W.vret hx hb hr (fun t ht hW => ⟨⟨(uS [ctr, cbe, (fun _ => har)] 0 (fun _ => 0)), rfl, r_ctr, by rw [ht]; exact hP, hD⟩, hS.F ht⟩) hS.2.2 dX0_seek_9
set_option maxHeartbeats 4000000 in
set_option maxRecDepth 100000 in
theorem k_X0_seek_3 (l : Launch) (dC : Nat → ClassId) (dI : Nat → Nat → Nat) (cI cZ cQ : ClassId) (a : Nat → Nat) (ali : Nat → Int32) (thi : Nat → Int32) (ctr : Nat → Int32) (cbe : Nat → Int32) (har : Int32) (mar : Nat → Int32) (tol : Nat → Int32) (sz : Nat) (fi : Int32) (n : Int32) (us : Int32) (ha : Int32) (r_thi : rg 8 (0) (23) thi) (r_ctr : rg 6 (0) (23) ctr) (r_mar : rg 24 (0) (255) mar) (r_tol : rg 8 (0) (23) tol) (q0 : 3 ≤ fi.toInt) (q1 : fi.toInt ≤ 6) (q2 : 2 ≤ n.toInt) (q3 : n.toInt ≤ 6) : KV l yX0_seek wsX0_seek { frames := 6, cells := 0, slots := 0, locals := 140 } (dC, dI) (TY cI cZ cQ) (wCod cI cZ cQ a ali thi ctr cbe har mar tol) [.ref (a 28), .int fi, .int n, .int us, .int ha] sz 0 0 (fun (u : US) => (rg 6 (0) (23) (u.1 0))) (fun u : US => (wCod cI cZ cQ a ali thi (u.1 0) (u.1 1) (u.1 2 0) mar tol)) := by
  refine Met.ofW (cc := cX0_seek) (maxL := 6) (ret := none) (by decide) rfl ?_
  intro p e s m args below meth c s₁ B hml hv
  obtain ⟨rfl, hsz, hP, hK, hD0, hN⟩ := hv
  have hx := B.exec
  have hb := B.bytes
  have hr := B.returns
  have hts := atoms_spec (ws := wsX0_seek) B.pre
  have hown : s.vm.findClass RX0 = some m.cls := findClass_of_methodNamed B.named
  have hlocks := B.notSynchronized
  have lf34 := hts (.fieldLink RX0 34 "PalaceOfRooms$Codes" "bestHarm" "I") (List.mem_cons_of_mem _ (List.mem_append_left _ (List.mem_append_left _ (List.mem_append_left _ (List.mem_of_getElem? (i := 0) rfl)))))
  have inX0 : ∀ w ∈ wsX00, w ∈ wsX0_seek := fun w h => List.mem_cons_of_mem _ (List.mem_append_left _ (List.mem_append_right _ h))
  have lf18 := hts (.fieldLink RX0 18 "PalaceOfRooms$Codes" "trial" "[I") (List.mem_cons_of_mem _ (List.mem_append_left _ (List.mem_append_left _ (List.mem_append_left _ (List.mem_of_getElem? (i := 1) rfl)))))
  have lf21 := hts (.fieldLink RX0 21 "PalaceOfRooms$Codes" "best" "[I") (List.mem_cons_of_mem _ (List.mem_append_left _ (List.mem_append_left _ (List.mem_append_left _ (List.mem_of_getElem? (i := 2) rfl)))))
  have lf15 := hts (.fieldLink RX0 15 "PalaceOfRooms$Codes" "things" "[I") (List.mem_cons_of_mem _ (List.mem_append_left _ (List.mem_append_left _ (List.mem_append_left _ (List.mem_of_getElem? (i := 7) rfl)))))
  subst hsz
  have hD := hD0.self (sz := s.heap.size)
  generalize hAe : va_A (wCod cI cZ cQ a ali thi ctr cbe har mar tol) s.heap.size = A at hD ⊢
  have hA : ∀ q : Nat, s.heap.size ≤ q → A q := fun q h => by rw [← hAe]; exact Or.inr h
  have hS : va_S A s.heap s.heap [] := va_S.rf
  have hl := lv_entry ([.ref (a 28), .int fi, .int n, .int us, .int ha]) (n := 6) (Nat.le_of_ble_eq_true rfl)
  rw [lg_entry_eq]
  generalize (lg_sl ([.ref (a 28), .int fi, .int n, .int us, .int ha]) ++ List.replicate (6 - (lg_sl ([.ref (a 28), .int fi, .int n, .int us, .int ha])).length) Slot.unset).toArray = ls at hl ⊢
  have hl : lv_has ls 6 [(0, .ref (a 28)), (1, .int fi), (2, .int n), (3, .int us), (4, .int ha)] := hl
  refine lv_iload hx hb dX0_seek_0 (lv_at hl 4 rfl) ?_
  refine lv_aload_n hx hb dX0_seek_2 rfl (lv_at hl 0 rfl) ?_
  refine va_get (D := (dC, dI)) (ci := 0) (v := .int har) (C := RX0) (T := TX0) (N := 6) hx hb hts inX0 hown hK hP 0 rfl rfl 5 (by decide) lf34 (fun _ h9 => h9) rfl dX0_seek_3 ?_
  refine lv_icmp_lt (tgt := 10) hx hb dX0_seek_6 (by decide) (fun c1 => ?_) (fun c1 => ?_)
  · have dc1 : ha.toInt < har.toInt := ltC rfl rfl c1
    refine lv_iload_n hx hb dX0_seek_10 rfl (lv_at hl 1 rfl) ?_
    refine lv_iload_n hx hb dX0_seek_11 rfl (lv_at hl 2 rfl) ?_
    refine lv_icmp_ge (tgt := 21) hx hb dX0_seek_12 (by decide) (fun c2 => ?_) (fun c2 => ?_)
    · have dc2 : n.toInt ≤ fi.toInt := leC rfl rfl c2
      refine lv_aload_n hx hb dX0_seek_21 rfl (lv_at hl 0 rfl) ?_
      refine lv_iload hx hb dX0_seek_22 (lv_at hl 4 rfl) ?_
      refine va_put (D := (dC, dI)) (ci := 0) (v := .int ha) (ty := .int) (C := RX0) (T := TX0) (N := 6) hx hb hts inX0 tyX0 tyX0_ok nmX0 hown hK hP hD hS 0 rfl rfl 5 (by decide) lf34 (fun _ h9 => h9) rfl (by decide +kernel) rfl rfl (Nat.le_of_ble_eq_true rfl) dX0_seek_24 (fun H locs hP hD hS => ?_)
      have hP : va_P (dC, dI) vwCl (wCod cI cZ cQ a ali thi ctr cbe ha mar tol) H := hP
      have hD : va_D A (wCod cI cZ cQ a ali thi ctr cbe ha mar tol) := hD
      refine lv_aload_n hx hb dX0_seek_27 rfl (lv_at hl 0 rfl) ?_
      refine va_get (D := (dC, dI)) (ci := 0) (v := .ref (a 31)) (C := RX0) (T := TX0) (N := 6) hx hb hts inX0 hown hK hP 0 rfl rfl 3 (by decide) lf18 (fun _ h9 => h9) rfl dX0_seek_28 ?_
      refine lv_iconst (v := 0) hx hb dX0_seek_31 (by decide) ?_
      refine lv_aload_n hx hb dX0_seek_32 rfl (lv_at hl 0 rfl) ?_
      refine va_get (D := (dC, dI)) (ci := 0) (v := .ref (a 32)) (C := RX0) (T := TX0) (N := 6) hx hb hts inX0 hown hK hP 0 rfl rfl 4 (by decide) lf21 (fun _ h9 => h9) rfl dX0_seek_33 ?_
      refine lv_iconst (v := 0) hx hb dX0_seek_36 (by decide) ?_
      refine lv_bipush (v := 6) hx hb dX0_seek_37 (by decide) ?_
      refine va_copyi (ty := .int) (n := 6) hx hb (by rw [hml]; exact hl.1.symm) hown (hts (.methodLink RX0 28 arraycopyName) (List.mem_cons_of_mem _ (List.mem_append_left _ (List.mem_append_left _ (List.mem_append_left _ (List.mem_of_getElem? (i := 3) rfl)))))) (hts (.native arraycopyName) (List.mem_cons_of_mem _ (List.mem_append_left _ (List.mem_append_left _ (List.mem_append_left _ (List.mem_of_getElem? (i := 4) rfl)))))) (hts (.static arraycopyName) (List.mem_cons_of_mem _ (List.mem_append_left _ (List.mem_append_left _ (List.mem_append_left _ (List.mem_of_getElem? (i := 5) rfl)))))) (hts (.initialized "java/lang/System") (List.mem_cons_of_mem _ (List.mem_append_left _ (List.mem_append_left _ (List.mem_append_left _ (List.mem_of_getElem? (i := 6) rfl)))))) hK hP hD hS 3 4 0 0 rfl rfl rfl rfl rfl (by decide) (by decide) (by decide) (by decide) (by decide) (fun _ _ => rfl) (Nat.le_of_ble_eq_true rfl) (Nat.le_of_ble_eq_true rfl) dX0_seek_39 (fun H locs hP hD hS => ?_)
      obtain ⟨cbe_u3, ecbe_u3⟩ : ∃ f : Nat → Int32, f = va_cpy ctr cbe 0 0 6 := ⟨_, rfl⟩
      have hP : va_P (dC, dI) vwCl (wCod cI cZ cQ a ali thi ctr cbe_u3 ha mar tol) H := by rw [ecbe_u3]; exact hP
      have hD : va_D A (wCod cI cZ cQ a ali thi ctr cbe_u3 ha mar tol) := by rw [ecbe_u3]; exact hD
      exact W.vret hx hb hr (fun t ht hW => ⟨⟨(uS [ctr, cbe_u3, (fun _ => ha)] 0 (fun _ => 0)), rfl, r_ctr, by rw [ht]; exact hP, hD⟩, hS.F ht⟩) hS.2.2 dX0_seek_42
    · have dc2 : fi.toInt < n.toInt := nleC rfl rfl c2
      refine lv_iload_n hx hb dX0_seek_15 rfl (lv_at hl 1 rfl) ?_
      refine lv_bipush (v := 6) hx hb dX0_seek_16 (by decide) ?_
      refine lv_icmp_lt (tgt := 43) hx hb dX0_seek_18 (by decide) (fun c4 => ?_) (fun c4 => ?_)
      · have dc4 : fi.toInt < 6 := ltC rfl (show (6 : Int32).toInt = 6 from rfl) c4
        refine lv_iconst (v := 0) hx hb dX0_seek_43 (by decide) ?_
        refine lv_istore (lv' := [(5, .int 0), (0, .ref (a 28)), (1, .int fi), (2, .int n), (3, .int us), (4, .int ha)]) hx hb dX0_seek_44 hl (by decide) rfl (fun ls hl => ?_)
        have L46 : ∀ (nn : Nat) (y46_5 : Int32) (ctr_46 : Nat → Int32) (cbe_46 : Nat → Int32) (har_46 : Int32) (H : Heap) (locs : List Loc) (ls : Array Slot), (rg 6 (0) (23) ctr_46) → (0 ≤ (y46_5.toInt)) → ((y46_5.toInt) ≤ 6) → (6 - (y46_5.toInt)).toNat < nn → va_P (dC, dI) vwCl (wCod cI cZ cQ a ali thi ctr_46 cbe_46 har_46 mar tol) H → va_D A (wCod cI cZ cQ a ali thi ctr_46 cbe_46 har_46 mar tol) → va_S A s.heap H locs → lv_has ls 6 [(0, .ref (a 28)), (1, .int fi), (2, .int n), (3, .int us), (4, .int ha), (5, .int y46_5)] → W p l e (headSpec wsX0_seek { frames := 6, cells := 0, slots := 0, locals := 140 }).room s m ([.ref (a 28), .int fi, .int n, .int us, .int ha] : List Value).toArray below meth c H locs 0 0 (MQ below (va_Qv (fun (u : US) => (rg 6 (0) (23) (u.1 0))) (Bw (dC, dI) A (fun u : US => (wCod cI cZ cQ a ali thi (u.1 0) (u.1 1) (u.1 2 0) mar tol))) A) ([.ref (a 28), .int fi, .int n, .int us, .int ha] : List Value).toArray s 0 0 A) (F0 m 46 ls []) := by
          intro nn
          induction nn with
          | zero =>
            intro y46_5 ctr_46 cbe_46 har_46 H locs ls r_ctr_46 i46_0 i46_1 hm
            exact absurd hm (Nat.not_lt_zero _)
          | succ nn ih46 =>
            intro y46_5 ctr_46 cbe_46 har_46 H locs ls r_ctr_46 i46_0 i46_1 hm hP hD hS hl
            refine lv_iload hx hb dX0_seek_46 (lv_at hl 5 rfl) ?_
            refine lv_iload_n hx hb dX0_seek_48 rfl (lv_at hl 2 rfl) ?_
            refine lv_icmp_ge (tgt := 102) hx hb dX0_seek_49 (by decide) (fun c5 => ?_) (fun c5 => ?_)
            · have dc5 : n.toInt ≤ y46_5.toInt := leC rfl rfl c5
              exact W.vret hx hb hr (fun t ht hW => ⟨⟨(uS [ctr_46, cbe_46, (fun _ => har_46)] 0 (fun _ => 0)), rfl, r_ctr_46, by rw [ht]; exact hP, hD⟩, hS.F ht⟩) hS.2.2 dX0_seek_102
            · have dc5 : y46_5.toInt < n.toInt := nleC rfl rfl c5
              refine lv_iload_n hx hb dX0_seek_52 rfl (lv_at hl 3 rfl) ?_
              refine lv_iload hx hb dX0_seek_53 (lv_at hl 5 rfl) ?_
              refine lv_ishr hx hb dX0_seek_55 ?_
              refine lv_iconst (v := 1) hx hb dX0_seek_56 (by decide) ?_
              refine lv_iand hx hb dX0_seek_57 ?_
              have f6 := andR (a := (us >>> (y46_5 &&& 31))) (m := 1) (M := 1) rfl (by decide)
              refine lv_if_ne (tgt := 96) hx hb dX0_seek_58 (by decide) (fun c7 => ?_) (fun c7 => ?_)
              · have dc7 : ((us >>> (y46_5 &&& 31)) &&& 1).toInt ≠ 0 := neC rfl (show (0 : Int32).toInt = 0 from rfl) c7
                obtain ⟨z8, ez8⟩ : ∃ y : Int32, y = y46_5 + 1 := ⟨_, rfl⟩
                have iz8 : z8.toInt = y46_5.toInt + 1 := by rw [ez8]; exact addC rfl rfl (by omega) (by omega)
                refine lv_iinc (v := z8) (lv' := [(5, .int z8), (0, .ref (a 28)), (1, .int fi), (2, .int n), (3, .int us), (4, .int ha)]) hx hb dX0_seek_96 hl (k := 5) rfl (by rw [ez8]; rfl) (by decide) rfl (fun ls hl => ?_)
                refine lv_goto (tgt := 46) hx hb dX0_seek_99 (by decide) ?_
                exact ih46 z8 ctr_46 cbe_46 har_46 _ _ _ r_ctr_46 (by omega) (by omega) (by omega) hP hD hS (lv_sub hl [1, 2, 3, 4, 5, 0] rfl)
              · have dc7 : ((us >>> (y46_5 &&& 31)) &&& 1).toInt = 0 := eqC rfl (show (0 : Int32).toInt = 0 from rfl) c7
                refine lv_aload_n hx hb dX0_seek_61 rfl (lv_at hl 0 rfl) ?_
                refine va_get (D := (dC, dI)) (ci := 0) (v := .ref (a 31)) (C := RX0) (T := TX0) (N := 6) hx hb hts inX0 hown hK hP 0 rfl rfl 3 (by decide) lf18 (fun _ h9 => h9) rfl dX0_seek_62 ?_
                refine lv_iload_n hx hb dX0_seek_65 rfl (lv_at hl 1 rfl) ?_
                refine lv_aload_n hx hb dX0_seek_66 rfl (lv_at hl 0 rfl) ?_
                refine va_get (D := (dC, dI)) (ci := 0) (v := .ref (a 30)) (C := RX0) (T := TX0) (N := 6) hx hb hts inX0 hown hK hP 0 rfl rfl 2 (by decide) lf15 (fun _ h9 => h9) rfl dX0_seek_67 ?_
                refine lv_iload hx hb dX0_seek_70 (lv_at hl 5 rfl) ?_
                have b9 : vp_in y46_5 8 := inC rfl (by omega) (by omega)
                refine va_iald hx hb hK hP 2 0 rfl rfl b9 dX0_seek_72 ?_
                have g10 : 0 ≤ (thi y46_5.toNatClampNeg).toInt ∧ (thi y46_5.toNatClampNeg).toInt ≤ 23 := rg_at r_thi b9
                refine lv_topi (fun x11 ex11 => ?_)
                have ix11 : x11.toInt = (thi y46_5.toNatClampNeg).toInt := by rw [ex11]
                have b12 : vp_in fi 6 := inC rfl (by omega) (by omega)
                have g13 : rg 6 (0) (23) (upd ctr_46 fi.toNatClampNeg x11) := rg_upd r_ctr_46 rfl (by omega) (by omega)
                refine va_iast hx hb hK hP hD hS 3 0 rfl rfl b12 dX0_seek_73 (fun H locs hP hD hS => ?_)
                obtain ⟨ctr_u14, ectr_u14⟩ : ∃ f : Nat → Int32, f = upd ctr_46 fi.toNatClampNeg x11 := ⟨_, rfl⟩
                have rctr_u14 : rg 6 (0) (23) ctr_u14 := by rw [ectr_u14]; exact g13
                have hP : va_P (dC, dI) vwCl (wCod cI cZ cQ a ali thi ctr_u14 cbe_46 har_46 mar tol) H := by rw [ectr_u14]; exact hP
                have hD : va_D A (wCod cI cZ cQ a ali thi ctr_u14 cbe_46 har_46 mar tol) := by rw [ectr_u14]; exact hD
                refine lv_aload_n hx hb dX0_seek_74 rfl (lv_at hl 0 rfl) ?_
                refine lv_iload_n hx hb dX0_seek_75 rfl (lv_at hl 1 rfl) ?_
                refine lv_iconst (v := 1) hx hb dX0_seek_76 (by decide) ?_
                refine lv_iadd hx hb dX0_seek_77 ?_
                have f15 : (fi + 1).toInt = (fi.toInt) + (1) := addC rfl (show (1 : Int32).toInt = 1 from rfl) (by omega) (by omega)
                refine lv_iload_n hx hb dX0_seek_78 rfl (lv_at hl 2 rfl) ?_
                refine lv_iload_n hx hb dX0_seek_79 rfl (lv_at hl 3 rfl) ?_
                refine lv_iconst (v := 1) hx hb dX0_seek_80 (by decide) ?_
                refine lv_iload hx hb dX0_seek_81 (lv_at hl 5 rfl) ?_
                refine lv_ishl hx hb dX0_seek_83 ?_
                have f16 : 1 ≤ ((1 : Int32) <<< (y46_5 &&& 31)).toInt ∧ ((1 : Int32) <<< (y46_5 &&& 31)).toInt ≤ 32 := shl1 rfl (by omega) 5 (by omega) (by decide)
                refine lv_ior hx hb dX0_seek_84 ?_
                refine lv_iload hx hb dX0_seek_85 (lv_at hl 4 rfl) ?_
                refine lv_aload_n hx hb dX0_seek_87 rfl (lv_at hl 0 rfl) ?_
                refine lv_iload_n hx hb dX0_seek_88 rfl (lv_at hl 1 rfl) ?_
                refine rdV (As := [.int fi]) (rest := [.int ha, .int (us ||| ((1 : Int32) <<< (y46_5 &&& 31))), .int n, .int (fi + 1), .ref (a 28)]) ⟨hx, hb, hml, hown, hts⟩ (k_X0_harmOf l dC dI cI cZ cQ a ali thi ctr_u14 cbe_46 har_46 mar tol fi r_thi rctr_u14 r_mar r_tol (by omega) (by omega)) (cwV 1 hts gX0_seek_X0_harmOf rfl rfl rfl (by decide +kernel) ⟨Nat.le_of_ble_eq_true rfl, Nat.le_of_ble_eq_true rfl⟩) hP hK hN [0, 1, 2, 3, 4, 5, 6, 7] rfl 0 0 rfl rfl rfl hl.1 rfl (Nat.le_of_ble_eq_true rfl) dX0_seek_89 ⟨Nat.le_of_ble_eq_true rfl, Nat.le_of_ble_eq_true rfl⟩ (fun r17 h18 => ?_)
                have h18 : True := h18
                refine lv_iadd hx hb dX0_seek_92 ?_
                refine wvV (As := [.int (fi + 1), .int n, .int (us ||| ((1 : Int32) <<< (y46_5 &&& 31))), .int (ha + r17)]) (rest := []) (wr := []) (w2 := (fun u : US => (wCod cI cZ cQ a ali thi (u.1 0) (u.1 1) (u.1 2 0) mar tol))) ⟨hx, hb, hml, hown, hts⟩ (k_X0_seek_2 l dC dI cI cZ cQ a ali thi ctr_u14 cbe_46 har_46 mar tol _ (fi + 1) n (us ||| ((1 : Int32) <<< (y46_5 &&& 31))) (ha + r17) r_thi rctr_u14 r_mar r_tol (by omega) (by omega) (by omega) (by omega)) (cwV 4 hts gX0_seek_X0_seek rfl rfl rfl (by decide +kernel) ⟨Nat.le_of_ble_eq_true rfl, Nat.le_of_ble_eq_true rfl⟩) hP hD hS hA hK hN [0, 1, 2, 3, 4, 5, 6, 7] [] [0, 1, 2, 3, 4, 5, 6, 7] rfl rfl (by decide) (by decide) (by decide) (fun _ => rfl) (by decide) 0 0 rfl rfl rfl hl.1 rfl (Nat.le_of_ble_eq_true rfl) dX0_seek_93 ⟨Nat.le_of_ble_eq_true rfl, Nat.le_of_ble_eq_true rfl⟩ (fun u21 H locs h20 hP hD hS => ?_)
                obtain ⟨ctr_c22, ectr_c22⟩ : ∃ f : Nat → Int32, f = (u21.1 0) := ⟨_, rfl⟩
                obtain ⟨cbe_c23, ecbe_c23⟩ : ∃ f : Nat → Int32, f = (u21.1 1) := ⟨_, rfl⟩
                obtain ⟨har_c24, ehar_c24⟩ : ∃ f : Int32, f = (u21.1 2 0) := ⟨_, rfl⟩
                have hP : va_P (dC, dI) vwCl (wCod cI cZ cQ a ali thi ctr_c22 cbe_c23 har_c24 mar tol) H := by rw [ectr_c22, ecbe_c23, ehar_c24]; exact hP
                have hD : va_D A (wCod cI cZ cQ a ali thi ctr_c22 cbe_c23 har_c24 mar tol) := by rw [ectr_c22, ecbe_c23, ehar_c24]; exact hD
                have h20 : (rg 6 (0) (23) ctr_c22) := by (try rw [ectr_c22]); (try rw [ecbe_c23]); (try rw [ehar_c24]); exact h20
                have h20_0 := h20
                obtain ⟨z25, ez25⟩ : ∃ y : Int32, y = y46_5 + 1 := ⟨_, rfl⟩
                have iz25 : z25.toInt = y46_5.toInt + 1 := by rw [ez25]; exact addC rfl rfl (by omega) (by omega)
                refine lv_iinc (v := z25) (lv' := [(5, .int z25), (0, .ref (a 28)), (1, .int fi), (2, .int n), (3, .int us), (4, .int ha)]) hx hb dX0_seek_96 hl (k := 5) rfl (by rw [ez25]; rfl) (by decide) rfl (fun ls hl => ?_)
                refine lv_goto (tgt := 46) hx hb dX0_seek_99 (by decide) ?_
                exact ih46 z25 ctr_c22 cbe_c23 har_c24 _ _ _ h20_0 (by omega) (by omega) (by omega) hP hD hS (lv_sub hl [1, 2, 3, 4, 5, 0] rfl)
        have kc26 : (0 : Int32).toInt = 0 := rfl
        exact L46 _ 0 ctr cbe har _ _ _ r_ctr (by omega) (by omega) (Nat.lt_succ_self _) hP hD hS (lv_sub hl [1, 2, 3, 4, 5, 0] rfl)
      · have dc4 : 6 ≤ fi.toInt := nltC rfl (show (6 : Int32).toInt = 6 from rfl) c4
        exfalso
        omega
  · have dc1 : har.toInt ≤ ha.toInt := nltC rfl rfl c1
    exact W.vret hx hb hr (fun t ht hW => ⟨⟨(uS [ctr, cbe, (fun _ => har)] 0 (fun _ => 0)), rfl, r_ctr, by rw [ht]; exact hP, hD⟩, hS.F ht⟩) hS.2.2 dX0_seek_9
set_option maxHeartbeats 4000000 in
set_option maxRecDepth 100000 in
theorem k_X0_seek_4 (l : Launch) (dC : Nat → ClassId) (dI : Nat → Nat → Nat) (cI cZ cQ : ClassId) (a : Nat → Nat) (ali : Nat → Int32) (thi : Nat → Int32) (ctr : Nat → Int32) (cbe : Nat → Int32) (har : Int32) (mar : Nat → Int32) (tol : Nat → Int32) (sz : Nat) (fi : Int32) (n : Int32) (us : Int32) (ha : Int32) (r_thi : rg 8 (0) (23) thi) (r_ctr : rg 6 (0) (23) ctr) (r_mar : rg 24 (0) (255) mar) (r_tol : rg 8 (0) (23) tol) (q0 : 2 ≤ fi.toInt) (q1 : fi.toInt ≤ 6) (q2 : 2 ≤ n.toInt) (q3 : n.toInt ≤ 6) : KV l yX0_seek wsX0_seek { frames := 7, cells := 0, slots := 0, locals := 165 } (dC, dI) (TY cI cZ cQ) (wCod cI cZ cQ a ali thi ctr cbe har mar tol) [.ref (a 28), .int fi, .int n, .int us, .int ha] sz 0 0 (fun (u : US) => (rg 6 (0) (23) (u.1 0))) (fun u : US => (wCod cI cZ cQ a ali thi (u.1 0) (u.1 1) (u.1 2 0) mar tol)) := by
  refine Met.ofW (cc := cX0_seek) (maxL := 6) (ret := none) (by decide) rfl ?_
  intro p e s m args below meth c s₁ B hml hv
  obtain ⟨rfl, hsz, hP, hK, hD0, hN⟩ := hv
  have hx := B.exec
  have hb := B.bytes
  have hr := B.returns
  have hts := atoms_spec (ws := wsX0_seek) B.pre
  have hown : s.vm.findClass RX0 = some m.cls := findClass_of_methodNamed B.named
  have hlocks := B.notSynchronized
  have lf34 := hts (.fieldLink RX0 34 "PalaceOfRooms$Codes" "bestHarm" "I") (List.mem_cons_of_mem _ (List.mem_append_left _ (List.mem_append_left _ (List.mem_append_left _ (List.mem_of_getElem? (i := 0) rfl)))))
  have inX0 : ∀ w ∈ wsX00, w ∈ wsX0_seek := fun w h => List.mem_cons_of_mem _ (List.mem_append_left _ (List.mem_append_right _ h))
  have lf18 := hts (.fieldLink RX0 18 "PalaceOfRooms$Codes" "trial" "[I") (List.mem_cons_of_mem _ (List.mem_append_left _ (List.mem_append_left _ (List.mem_append_left _ (List.mem_of_getElem? (i := 1) rfl)))))
  have lf21 := hts (.fieldLink RX0 21 "PalaceOfRooms$Codes" "best" "[I") (List.mem_cons_of_mem _ (List.mem_append_left _ (List.mem_append_left _ (List.mem_append_left _ (List.mem_of_getElem? (i := 2) rfl)))))
  have lf15 := hts (.fieldLink RX0 15 "PalaceOfRooms$Codes" "things" "[I") (List.mem_cons_of_mem _ (List.mem_append_left _ (List.mem_append_left _ (List.mem_append_left _ (List.mem_of_getElem? (i := 7) rfl)))))
  subst hsz
  have hD := hD0.self (sz := s.heap.size)
  generalize hAe : va_A (wCod cI cZ cQ a ali thi ctr cbe har mar tol) s.heap.size = A at hD ⊢
  have hA : ∀ q : Nat, s.heap.size ≤ q → A q := fun q h => by rw [← hAe]; exact Or.inr h
  have hS : va_S A s.heap s.heap [] := va_S.rf
  have hl := lv_entry ([.ref (a 28), .int fi, .int n, .int us, .int ha]) (n := 6) (Nat.le_of_ble_eq_true rfl)
  rw [lg_entry_eq]
  generalize (lg_sl ([.ref (a 28), .int fi, .int n, .int us, .int ha]) ++ List.replicate (6 - (lg_sl ([.ref (a 28), .int fi, .int n, .int us, .int ha])).length) Slot.unset).toArray = ls at hl ⊢
  have hl : lv_has ls 6 [(0, .ref (a 28)), (1, .int fi), (2, .int n), (3, .int us), (4, .int ha)] := hl
  refine lv_iload hx hb dX0_seek_0 (lv_at hl 4 rfl) ?_
  refine lv_aload_n hx hb dX0_seek_2 rfl (lv_at hl 0 rfl) ?_
  refine va_get (D := (dC, dI)) (ci := 0) (v := .int har) (C := RX0) (T := TX0) (N := 6) hx hb hts inX0 hown hK hP 0 rfl rfl 5 (by decide) lf34 (fun _ h9 => h9) rfl dX0_seek_3 ?_
  refine lv_icmp_lt (tgt := 10) hx hb dX0_seek_6 (by decide) (fun c1 => ?_) (fun c1 => ?_)
  · have dc1 : ha.toInt < har.toInt := ltC rfl rfl c1
    refine lv_iload_n hx hb dX0_seek_10 rfl (lv_at hl 1 rfl) ?_
    refine lv_iload_n hx hb dX0_seek_11 rfl (lv_at hl 2 rfl) ?_
    refine lv_icmp_ge (tgt := 21) hx hb dX0_seek_12 (by decide) (fun c2 => ?_) (fun c2 => ?_)
    · have dc2 : n.toInt ≤ fi.toInt := leC rfl rfl c2
      refine lv_aload_n hx hb dX0_seek_21 rfl (lv_at hl 0 rfl) ?_
      refine lv_iload hx hb dX0_seek_22 (lv_at hl 4 rfl) ?_
      refine va_put (D := (dC, dI)) (ci := 0) (v := .int ha) (ty := .int) (C := RX0) (T := TX0) (N := 6) hx hb hts inX0 tyX0 tyX0_ok nmX0 hown hK hP hD hS 0 rfl rfl 5 (by decide) lf34 (fun _ h9 => h9) rfl (by decide +kernel) rfl rfl (Nat.le_of_ble_eq_true rfl) dX0_seek_24 (fun H locs hP hD hS => ?_)
      have hP : va_P (dC, dI) vwCl (wCod cI cZ cQ a ali thi ctr cbe ha mar tol) H := hP
      have hD : va_D A (wCod cI cZ cQ a ali thi ctr cbe ha mar tol) := hD
      refine lv_aload_n hx hb dX0_seek_27 rfl (lv_at hl 0 rfl) ?_
      refine va_get (D := (dC, dI)) (ci := 0) (v := .ref (a 31)) (C := RX0) (T := TX0) (N := 6) hx hb hts inX0 hown hK hP 0 rfl rfl 3 (by decide) lf18 (fun _ h9 => h9) rfl dX0_seek_28 ?_
      refine lv_iconst (v := 0) hx hb dX0_seek_31 (by decide) ?_
      refine lv_aload_n hx hb dX0_seek_32 rfl (lv_at hl 0 rfl) ?_
      refine va_get (D := (dC, dI)) (ci := 0) (v := .ref (a 32)) (C := RX0) (T := TX0) (N := 6) hx hb hts inX0 hown hK hP 0 rfl rfl 4 (by decide) lf21 (fun _ h9 => h9) rfl dX0_seek_33 ?_
      refine lv_iconst (v := 0) hx hb dX0_seek_36 (by decide) ?_
      refine lv_bipush (v := 6) hx hb dX0_seek_37 (by decide) ?_
      refine va_copyi (ty := .int) (n := 6) hx hb (by rw [hml]; exact hl.1.symm) hown (hts (.methodLink RX0 28 arraycopyName) (List.mem_cons_of_mem _ (List.mem_append_left _ (List.mem_append_left _ (List.mem_append_left _ (List.mem_of_getElem? (i := 3) rfl)))))) (hts (.native arraycopyName) (List.mem_cons_of_mem _ (List.mem_append_left _ (List.mem_append_left _ (List.mem_append_left _ (List.mem_of_getElem? (i := 4) rfl)))))) (hts (.static arraycopyName) (List.mem_cons_of_mem _ (List.mem_append_left _ (List.mem_append_left _ (List.mem_append_left _ (List.mem_of_getElem? (i := 5) rfl)))))) (hts (.initialized "java/lang/System") (List.mem_cons_of_mem _ (List.mem_append_left _ (List.mem_append_left _ (List.mem_append_left _ (List.mem_of_getElem? (i := 6) rfl)))))) hK hP hD hS 3 4 0 0 rfl rfl rfl rfl rfl (by decide) (by decide) (by decide) (by decide) (by decide) (fun _ _ => rfl) (Nat.le_of_ble_eq_true rfl) (Nat.le_of_ble_eq_true rfl) dX0_seek_39 (fun H locs hP hD hS => ?_)
      obtain ⟨cbe_u3, ecbe_u3⟩ : ∃ f : Nat → Int32, f = va_cpy ctr cbe 0 0 6 := ⟨_, rfl⟩
      have hP : va_P (dC, dI) vwCl (wCod cI cZ cQ a ali thi ctr cbe_u3 ha mar tol) H := by rw [ecbe_u3]; exact hP
      have hD : va_D A (wCod cI cZ cQ a ali thi ctr cbe_u3 ha mar tol) := by rw [ecbe_u3]; exact hD
      exact W.vret hx hb hr (fun t ht hW => ⟨⟨(uS [ctr, cbe_u3, (fun _ => ha)] 0 (fun _ => 0)), rfl, r_ctr, by rw [ht]; exact hP, hD⟩, hS.F ht⟩) hS.2.2 dX0_seek_42
    · have dc2 : fi.toInt < n.toInt := nleC rfl rfl c2
      refine lv_iload_n hx hb dX0_seek_15 rfl (lv_at hl 1 rfl) ?_
      refine lv_bipush (v := 6) hx hb dX0_seek_16 (by decide) ?_
      refine lv_icmp_lt (tgt := 43) hx hb dX0_seek_18 (by decide) (fun c4 => ?_) (fun c4 => ?_)
      · have dc4 : fi.toInt < 6 := ltC rfl (show (6 : Int32).toInt = 6 from rfl) c4
        refine lv_iconst (v := 0) hx hb dX0_seek_43 (by decide) ?_
        refine lv_istore (lv' := [(5, .int 0), (0, .ref (a 28)), (1, .int fi), (2, .int n), (3, .int us), (4, .int ha)]) hx hb dX0_seek_44 hl (by decide) rfl (fun ls hl => ?_)
        have L46 : ∀ (nn : Nat) (y46_5 : Int32) (ctr_46 : Nat → Int32) (cbe_46 : Nat → Int32) (har_46 : Int32) (H : Heap) (locs : List Loc) (ls : Array Slot), (rg 6 (0) (23) ctr_46) → (0 ≤ (y46_5.toInt)) → ((y46_5.toInt) ≤ 6) → (6 - (y46_5.toInt)).toNat < nn → va_P (dC, dI) vwCl (wCod cI cZ cQ a ali thi ctr_46 cbe_46 har_46 mar tol) H → va_D A (wCod cI cZ cQ a ali thi ctr_46 cbe_46 har_46 mar tol) → va_S A s.heap H locs → lv_has ls 6 [(0, .ref (a 28)), (1, .int fi), (2, .int n), (3, .int us), (4, .int ha), (5, .int y46_5)] → W p l e (headSpec wsX0_seek { frames := 7, cells := 0, slots := 0, locals := 165 }).room s m ([.ref (a 28), .int fi, .int n, .int us, .int ha] : List Value).toArray below meth c H locs 0 0 (MQ below (va_Qv (fun (u : US) => (rg 6 (0) (23) (u.1 0))) (Bw (dC, dI) A (fun u : US => (wCod cI cZ cQ a ali thi (u.1 0) (u.1 1) (u.1 2 0) mar tol))) A) ([.ref (a 28), .int fi, .int n, .int us, .int ha] : List Value).toArray s 0 0 A) (F0 m 46 ls []) := by
          intro nn
          induction nn with
          | zero =>
            intro y46_5 ctr_46 cbe_46 har_46 H locs ls r_ctr_46 i46_0 i46_1 hm
            exact absurd hm (Nat.not_lt_zero _)
          | succ nn ih46 =>
            intro y46_5 ctr_46 cbe_46 har_46 H locs ls r_ctr_46 i46_0 i46_1 hm hP hD hS hl
            refine lv_iload hx hb dX0_seek_46 (lv_at hl 5 rfl) ?_
            refine lv_iload_n hx hb dX0_seek_48 rfl (lv_at hl 2 rfl) ?_
            refine lv_icmp_ge (tgt := 102) hx hb dX0_seek_49 (by decide) (fun c5 => ?_) (fun c5 => ?_)
            · have dc5 : n.toInt ≤ y46_5.toInt := leC rfl rfl c5
              exact W.vret hx hb hr (fun t ht hW => ⟨⟨(uS [ctr_46, cbe_46, (fun _ => har_46)] 0 (fun _ => 0)), rfl, r_ctr_46, by rw [ht]; exact hP, hD⟩, hS.F ht⟩) hS.2.2 dX0_seek_102
            · have dc5 : y46_5.toInt < n.toInt := nleC rfl rfl c5
              refine lv_iload_n hx hb dX0_seek_52 rfl (lv_at hl 3 rfl) ?_
              refine lv_iload hx hb dX0_seek_53 (lv_at hl 5 rfl) ?_
              refine lv_ishr hx hb dX0_seek_55 ?_
              refine lv_iconst (v := 1) hx hb dX0_seek_56 (by decide) ?_
              refine lv_iand hx hb dX0_seek_57 ?_
              have f6 := andR (a := (us >>> (y46_5 &&& 31))) (m := 1) (M := 1) rfl (by decide)
              refine lv_if_ne (tgt := 96) hx hb dX0_seek_58 (by decide) (fun c7 => ?_) (fun c7 => ?_)
              · have dc7 : ((us >>> (y46_5 &&& 31)) &&& 1).toInt ≠ 0 := neC rfl (show (0 : Int32).toInt = 0 from rfl) c7
                obtain ⟨z8, ez8⟩ : ∃ y : Int32, y = y46_5 + 1 := ⟨_, rfl⟩
                have iz8 : z8.toInt = y46_5.toInt + 1 := by rw [ez8]; exact addC rfl rfl (by omega) (by omega)
                refine lv_iinc (v := z8) (lv' := [(5, .int z8), (0, .ref (a 28)), (1, .int fi), (2, .int n), (3, .int us), (4, .int ha)]) hx hb dX0_seek_96 hl (k := 5) rfl (by rw [ez8]; rfl) (by decide) rfl (fun ls hl => ?_)
                refine lv_goto (tgt := 46) hx hb dX0_seek_99 (by decide) ?_
                exact ih46 z8 ctr_46 cbe_46 har_46 _ _ _ r_ctr_46 (by omega) (by omega) (by omega) hP hD hS (lv_sub hl [1, 2, 3, 4, 5, 0] rfl)
              · have dc7 : ((us >>> (y46_5 &&& 31)) &&& 1).toInt = 0 := eqC rfl (show (0 : Int32).toInt = 0 from rfl) c7
                refine lv_aload_n hx hb dX0_seek_61 rfl (lv_at hl 0 rfl) ?_
                refine va_get (D := (dC, dI)) (ci := 0) (v := .ref (a 31)) (C := RX0) (T := TX0) (N := 6) hx hb hts inX0 hown hK hP 0 rfl rfl 3 (by decide) lf18 (fun _ h9 => h9) rfl dX0_seek_62 ?_
                refine lv_iload_n hx hb dX0_seek_65 rfl (lv_at hl 1 rfl) ?_
                refine lv_aload_n hx hb dX0_seek_66 rfl (lv_at hl 0 rfl) ?_
                refine va_get (D := (dC, dI)) (ci := 0) (v := .ref (a 30)) (C := RX0) (T := TX0) (N := 6) hx hb hts inX0 hown hK hP 0 rfl rfl 2 (by decide) lf15 (fun _ h9 => h9) rfl dX0_seek_67 ?_
                refine lv_iload hx hb dX0_seek_70 (lv_at hl 5 rfl) ?_
                have b9 : vp_in y46_5 8 := inC rfl (by omega) (by omega)
                refine va_iald hx hb hK hP 2 0 rfl rfl b9 dX0_seek_72 ?_
                have g10 : 0 ≤ (thi y46_5.toNatClampNeg).toInt ∧ (thi y46_5.toNatClampNeg).toInt ≤ 23 := rg_at r_thi b9
                refine lv_topi (fun x11 ex11 => ?_)
                have ix11 : x11.toInt = (thi y46_5.toNatClampNeg).toInt := by rw [ex11]
                have b12 : vp_in fi 6 := inC rfl (by omega) (by omega)
                have g13 : rg 6 (0) (23) (upd ctr_46 fi.toNatClampNeg x11) := rg_upd r_ctr_46 rfl (by omega) (by omega)
                refine va_iast hx hb hK hP hD hS 3 0 rfl rfl b12 dX0_seek_73 (fun H locs hP hD hS => ?_)
                obtain ⟨ctr_u14, ectr_u14⟩ : ∃ f : Nat → Int32, f = upd ctr_46 fi.toNatClampNeg x11 := ⟨_, rfl⟩
                have rctr_u14 : rg 6 (0) (23) ctr_u14 := by rw [ectr_u14]; exact g13
                have hP : va_P (dC, dI) vwCl (wCod cI cZ cQ a ali thi ctr_u14 cbe_46 har_46 mar tol) H := by rw [ectr_u14]; exact hP
                have hD : va_D A (wCod cI cZ cQ a ali thi ctr_u14 cbe_46 har_46 mar tol) := by rw [ectr_u14]; exact hD
                refine lv_aload_n hx hb dX0_seek_74 rfl (lv_at hl 0 rfl) ?_
                refine lv_iload_n hx hb dX0_seek_75 rfl (lv_at hl 1 rfl) ?_
                refine lv_iconst (v := 1) hx hb dX0_seek_76 (by decide) ?_
                refine lv_iadd hx hb dX0_seek_77 ?_
                have f15 : (fi + 1).toInt = (fi.toInt) + (1) := addC rfl (show (1 : Int32).toInt = 1 from rfl) (by omega) (by omega)
                refine lv_iload_n hx hb dX0_seek_78 rfl (lv_at hl 2 rfl) ?_
                refine lv_iload_n hx hb dX0_seek_79 rfl (lv_at hl 3 rfl) ?_
                refine lv_iconst (v := 1) hx hb dX0_seek_80 (by decide) ?_
                refine lv_iload hx hb dX0_seek_81 (lv_at hl 5 rfl) ?_
                refine lv_ishl hx hb dX0_seek_83 ?_
                have f16 : 1 ≤ ((1 : Int32) <<< (y46_5 &&& 31)).toInt ∧ ((1 : Int32) <<< (y46_5 &&& 31)).toInt ≤ 32 := shl1 rfl (by omega) 5 (by omega) (by decide)
                refine lv_ior hx hb dX0_seek_84 ?_
                refine lv_iload hx hb dX0_seek_85 (lv_at hl 4 rfl) ?_
                refine lv_aload_n hx hb dX0_seek_87 rfl (lv_at hl 0 rfl) ?_
                refine lv_iload_n hx hb dX0_seek_88 rfl (lv_at hl 1 rfl) ?_
                refine rdV (As := [.int fi]) (rest := [.int ha, .int (us ||| ((1 : Int32) <<< (y46_5 &&& 31))), .int n, .int (fi + 1), .ref (a 28)]) ⟨hx, hb, hml, hown, hts⟩ (k_X0_harmOf l dC dI cI cZ cQ a ali thi ctr_u14 cbe_46 har_46 mar tol fi r_thi rctr_u14 r_mar r_tol (by omega) (by omega)) (cwV 1 hts gX0_seek_X0_harmOf rfl rfl rfl (by decide +kernel) ⟨Nat.le_of_ble_eq_true rfl, Nat.le_of_ble_eq_true rfl⟩) hP hK hN [0, 1, 2, 3, 4, 5, 6, 7] rfl 0 0 rfl rfl rfl hl.1 rfl (Nat.le_of_ble_eq_true rfl) dX0_seek_89 ⟨Nat.le_of_ble_eq_true rfl, Nat.le_of_ble_eq_true rfl⟩ (fun r17 h18 => ?_)
                have h18 : True := h18
                refine lv_iadd hx hb dX0_seek_92 ?_
                refine wvV (As := [.int (fi + 1), .int n, .int (us ||| ((1 : Int32) <<< (y46_5 &&& 31))), .int (ha + r17)]) (rest := []) (wr := []) (w2 := (fun u : US => (wCod cI cZ cQ a ali thi (u.1 0) (u.1 1) (u.1 2 0) mar tol))) ⟨hx, hb, hml, hown, hts⟩ (k_X0_seek_3 l dC dI cI cZ cQ a ali thi ctr_u14 cbe_46 har_46 mar tol _ (fi + 1) n (us ||| ((1 : Int32) <<< (y46_5 &&& 31))) (ha + r17) r_thi rctr_u14 r_mar r_tol (by omega) (by omega) (by omega) (by omega)) (cwV 4 hts gX0_seek_X0_seek rfl rfl rfl (by decide +kernel) ⟨Nat.le_of_ble_eq_true rfl, Nat.le_of_ble_eq_true rfl⟩) hP hD hS hA hK hN [0, 1, 2, 3, 4, 5, 6, 7] [] [0, 1, 2, 3, 4, 5, 6, 7] rfl rfl (by decide) (by decide) (by decide) (fun _ => rfl) (by decide) 0 0 rfl rfl rfl hl.1 rfl (Nat.le_of_ble_eq_true rfl) dX0_seek_93 ⟨Nat.le_of_ble_eq_true rfl, Nat.le_of_ble_eq_true rfl⟩ (fun u21 H locs h20 hP hD hS => ?_)
                obtain ⟨ctr_c22, ectr_c22⟩ : ∃ f : Nat → Int32, f = (u21.1 0) := ⟨_, rfl⟩
                obtain ⟨cbe_c23, ecbe_c23⟩ : ∃ f : Nat → Int32, f = (u21.1 1) := ⟨_, rfl⟩
                obtain ⟨har_c24, ehar_c24⟩ : ∃ f : Int32, f = (u21.1 2 0) := ⟨_, rfl⟩
                have hP : va_P (dC, dI) vwCl (wCod cI cZ cQ a ali thi ctr_c22 cbe_c23 har_c24 mar tol) H := by rw [ectr_c22, ecbe_c23, ehar_c24]; exact hP
                have hD : va_D A (wCod cI cZ cQ a ali thi ctr_c22 cbe_c23 har_c24 mar tol) := by rw [ectr_c22, ecbe_c23, ehar_c24]; exact hD
                have h20 : (rg 6 (0) (23) ctr_c22) := by (try rw [ectr_c22]); (try rw [ecbe_c23]); (try rw [ehar_c24]); exact h20
                have h20_0 := h20
                obtain ⟨z25, ez25⟩ : ∃ y : Int32, y = y46_5 + 1 := ⟨_, rfl⟩
                have iz25 : z25.toInt = y46_5.toInt + 1 := by rw [ez25]; exact addC rfl rfl (by omega) (by omega)
                refine lv_iinc (v := z25) (lv' := [(5, .int z25), (0, .ref (a 28)), (1, .int fi), (2, .int n), (3, .int us), (4, .int ha)]) hx hb dX0_seek_96 hl (k := 5) rfl (by rw [ez25]; rfl) (by decide) rfl (fun ls hl => ?_)
                refine lv_goto (tgt := 46) hx hb dX0_seek_99 (by decide) ?_
                exact ih46 z25 ctr_c22 cbe_c23 har_c24 _ _ _ h20_0 (by omega) (by omega) (by omega) hP hD hS (lv_sub hl [1, 2, 3, 4, 5, 0] rfl)
        have kc26 : (0 : Int32).toInt = 0 := rfl
        exact L46 _ 0 ctr cbe har _ _ _ r_ctr (by omega) (by omega) (Nat.lt_succ_self _) hP hD hS (lv_sub hl [1, 2, 3, 4, 5, 0] rfl)
      · have dc4 : 6 ≤ fi.toInt := nltC rfl (show (6 : Int32).toInt = 6 from rfl) c4
        exfalso
        omega
  · have dc1 : har.toInt ≤ ha.toInt := nltC rfl rfl c1
    exact W.vret hx hb hr (fun t ht hW => ⟨⟨(uS [ctr, cbe, (fun _ => har)] 0 (fun _ => 0)), rfl, r_ctr, by rw [ht]; exact hP, hD⟩, hS.F ht⟩) hS.2.2 dX0_seek_9
set_option maxHeartbeats 4000000 in
set_option maxRecDepth 100000 in
theorem k_X0_seek_5 (l : Launch) (dC : Nat → ClassId) (dI : Nat → Nat → Nat) (cI cZ cQ : ClassId) (a : Nat → Nat) (ali : Nat → Int32) (thi : Nat → Int32) (ctr : Nat → Int32) (cbe : Nat → Int32) (har : Int32) (mar : Nat → Int32) (tol : Nat → Int32) (sz : Nat) (fi : Int32) (n : Int32) (us : Int32) (ha : Int32) (r_thi : rg 8 (0) (23) thi) (r_ctr : rg 6 (0) (23) ctr) (r_mar : rg 24 (0) (255) mar) (r_tol : rg 8 (0) (23) tol) (q0 : 1 ≤ fi.toInt) (q1 : fi.toInt ≤ 6) (q2 : 2 ≤ n.toInt) (q3 : n.toInt ≤ 6) : KV l yX0_seek wsX0_seek { frames := 8, cells := 0, slots := 0, locals := 190 } (dC, dI) (TY cI cZ cQ) (wCod cI cZ cQ a ali thi ctr cbe har mar tol) [.ref (a 28), .int fi, .int n, .int us, .int ha] sz 0 0 (fun (u : US) => (rg 6 (0) (23) (u.1 0))) (fun u : US => (wCod cI cZ cQ a ali thi (u.1 0) (u.1 1) (u.1 2 0) mar tol)) := by
  refine Met.ofW (cc := cX0_seek) (maxL := 6) (ret := none) (by decide) rfl ?_
  intro p e s m args below meth c s₁ B hml hv
  obtain ⟨rfl, hsz, hP, hK, hD0, hN⟩ := hv
  have hx := B.exec
  have hb := B.bytes
  have hr := B.returns
  have hts := atoms_spec (ws := wsX0_seek) B.pre
  have hown : s.vm.findClass RX0 = some m.cls := findClass_of_methodNamed B.named
  have hlocks := B.notSynchronized
  have lf34 := hts (.fieldLink RX0 34 "PalaceOfRooms$Codes" "bestHarm" "I") (List.mem_cons_of_mem _ (List.mem_append_left _ (List.mem_append_left _ (List.mem_append_left _ (List.mem_of_getElem? (i := 0) rfl)))))
  have inX0 : ∀ w ∈ wsX00, w ∈ wsX0_seek := fun w h => List.mem_cons_of_mem _ (List.mem_append_left _ (List.mem_append_right _ h))
  have lf18 := hts (.fieldLink RX0 18 "PalaceOfRooms$Codes" "trial" "[I") (List.mem_cons_of_mem _ (List.mem_append_left _ (List.mem_append_left _ (List.mem_append_left _ (List.mem_of_getElem? (i := 1) rfl)))))
  have lf21 := hts (.fieldLink RX0 21 "PalaceOfRooms$Codes" "best" "[I") (List.mem_cons_of_mem _ (List.mem_append_left _ (List.mem_append_left _ (List.mem_append_left _ (List.mem_of_getElem? (i := 2) rfl)))))
  have lf15 := hts (.fieldLink RX0 15 "PalaceOfRooms$Codes" "things" "[I") (List.mem_cons_of_mem _ (List.mem_append_left _ (List.mem_append_left _ (List.mem_append_left _ (List.mem_of_getElem? (i := 7) rfl)))))
  subst hsz
  have hD := hD0.self (sz := s.heap.size)
  generalize hAe : va_A (wCod cI cZ cQ a ali thi ctr cbe har mar tol) s.heap.size = A at hD ⊢
  have hA : ∀ q : Nat, s.heap.size ≤ q → A q := fun q h => by rw [← hAe]; exact Or.inr h
  have hS : va_S A s.heap s.heap [] := va_S.rf
  have hl := lv_entry ([.ref (a 28), .int fi, .int n, .int us, .int ha]) (n := 6) (Nat.le_of_ble_eq_true rfl)
  rw [lg_entry_eq]
  generalize (lg_sl ([.ref (a 28), .int fi, .int n, .int us, .int ha]) ++ List.replicate (6 - (lg_sl ([.ref (a 28), .int fi, .int n, .int us, .int ha])).length) Slot.unset).toArray = ls at hl ⊢
  have hl : lv_has ls 6 [(0, .ref (a 28)), (1, .int fi), (2, .int n), (3, .int us), (4, .int ha)] := hl
  refine lv_iload hx hb dX0_seek_0 (lv_at hl 4 rfl) ?_
  refine lv_aload_n hx hb dX0_seek_2 rfl (lv_at hl 0 rfl) ?_
  refine va_get (D := (dC, dI)) (ci := 0) (v := .int har) (C := RX0) (T := TX0) (N := 6) hx hb hts inX0 hown hK hP 0 rfl rfl 5 (by decide) lf34 (fun _ h9 => h9) rfl dX0_seek_3 ?_
  refine lv_icmp_lt (tgt := 10) hx hb dX0_seek_6 (by decide) (fun c1 => ?_) (fun c1 => ?_)
  · have dc1 : ha.toInt < har.toInt := ltC rfl rfl c1
    refine lv_iload_n hx hb dX0_seek_10 rfl (lv_at hl 1 rfl) ?_
    refine lv_iload_n hx hb dX0_seek_11 rfl (lv_at hl 2 rfl) ?_
    refine lv_icmp_ge (tgt := 21) hx hb dX0_seek_12 (by decide) (fun c2 => ?_) (fun c2 => ?_)
    · have dc2 : n.toInt ≤ fi.toInt := leC rfl rfl c2
      refine lv_aload_n hx hb dX0_seek_21 rfl (lv_at hl 0 rfl) ?_
      refine lv_iload hx hb dX0_seek_22 (lv_at hl 4 rfl) ?_
      refine va_put (D := (dC, dI)) (ci := 0) (v := .int ha) (ty := .int) (C := RX0) (T := TX0) (N := 6) hx hb hts inX0 tyX0 tyX0_ok nmX0 hown hK hP hD hS 0 rfl rfl 5 (by decide) lf34 (fun _ h9 => h9) rfl (by decide +kernel) rfl rfl (Nat.le_of_ble_eq_true rfl) dX0_seek_24 (fun H locs hP hD hS => ?_)
      have hP : va_P (dC, dI) vwCl (wCod cI cZ cQ a ali thi ctr cbe ha mar tol) H := hP
      have hD : va_D A (wCod cI cZ cQ a ali thi ctr cbe ha mar tol) := hD
      refine lv_aload_n hx hb dX0_seek_27 rfl (lv_at hl 0 rfl) ?_
      refine va_get (D := (dC, dI)) (ci := 0) (v := .ref (a 31)) (C := RX0) (T := TX0) (N := 6) hx hb hts inX0 hown hK hP 0 rfl rfl 3 (by decide) lf18 (fun _ h9 => h9) rfl dX0_seek_28 ?_
      refine lv_iconst (v := 0) hx hb dX0_seek_31 (by decide) ?_
      refine lv_aload_n hx hb dX0_seek_32 rfl (lv_at hl 0 rfl) ?_
      refine va_get (D := (dC, dI)) (ci := 0) (v := .ref (a 32)) (C := RX0) (T := TX0) (N := 6) hx hb hts inX0 hown hK hP 0 rfl rfl 4 (by decide) lf21 (fun _ h9 => h9) rfl dX0_seek_33 ?_
      refine lv_iconst (v := 0) hx hb dX0_seek_36 (by decide) ?_
      refine lv_bipush (v := 6) hx hb dX0_seek_37 (by decide) ?_
      refine va_copyi (ty := .int) (n := 6) hx hb (by rw [hml]; exact hl.1.symm) hown (hts (.methodLink RX0 28 arraycopyName) (List.mem_cons_of_mem _ (List.mem_append_left _ (List.mem_append_left _ (List.mem_append_left _ (List.mem_of_getElem? (i := 3) rfl)))))) (hts (.native arraycopyName) (List.mem_cons_of_mem _ (List.mem_append_left _ (List.mem_append_left _ (List.mem_append_left _ (List.mem_of_getElem? (i := 4) rfl)))))) (hts (.static arraycopyName) (List.mem_cons_of_mem _ (List.mem_append_left _ (List.mem_append_left _ (List.mem_append_left _ (List.mem_of_getElem? (i := 5) rfl)))))) (hts (.initialized "java/lang/System") (List.mem_cons_of_mem _ (List.mem_append_left _ (List.mem_append_left _ (List.mem_append_left _ (List.mem_of_getElem? (i := 6) rfl)))))) hK hP hD hS 3 4 0 0 rfl rfl rfl rfl rfl (by decide) (by decide) (by decide) (by decide) (by decide) (fun _ _ => rfl) (Nat.le_of_ble_eq_true rfl) (Nat.le_of_ble_eq_true rfl) dX0_seek_39 (fun H locs hP hD hS => ?_)
      obtain ⟨cbe_u3, ecbe_u3⟩ : ∃ f : Nat → Int32, f = va_cpy ctr cbe 0 0 6 := ⟨_, rfl⟩
      have hP : va_P (dC, dI) vwCl (wCod cI cZ cQ a ali thi ctr cbe_u3 ha mar tol) H := by rw [ecbe_u3]; exact hP
      have hD : va_D A (wCod cI cZ cQ a ali thi ctr cbe_u3 ha mar tol) := by rw [ecbe_u3]; exact hD
      exact W.vret hx hb hr (fun t ht hW => ⟨⟨(uS [ctr, cbe_u3, (fun _ => ha)] 0 (fun _ => 0)), rfl, r_ctr, by rw [ht]; exact hP, hD⟩, hS.F ht⟩) hS.2.2 dX0_seek_42
    · have dc2 : fi.toInt < n.toInt := nleC rfl rfl c2
      refine lv_iload_n hx hb dX0_seek_15 rfl (lv_at hl 1 rfl) ?_
      refine lv_bipush (v := 6) hx hb dX0_seek_16 (by decide) ?_
      refine lv_icmp_lt (tgt := 43) hx hb dX0_seek_18 (by decide) (fun c4 => ?_) (fun c4 => ?_)
      · have dc4 : fi.toInt < 6 := ltC rfl (show (6 : Int32).toInt = 6 from rfl) c4
        refine lv_iconst (v := 0) hx hb dX0_seek_43 (by decide) ?_
        refine lv_istore (lv' := [(5, .int 0), (0, .ref (a 28)), (1, .int fi), (2, .int n), (3, .int us), (4, .int ha)]) hx hb dX0_seek_44 hl (by decide) rfl (fun ls hl => ?_)
        have L46 : ∀ (nn : Nat) (y46_5 : Int32) (ctr_46 : Nat → Int32) (cbe_46 : Nat → Int32) (har_46 : Int32) (H : Heap) (locs : List Loc) (ls : Array Slot), (rg 6 (0) (23) ctr_46) → (0 ≤ (y46_5.toInt)) → ((y46_5.toInt) ≤ 6) → (6 - (y46_5.toInt)).toNat < nn → va_P (dC, dI) vwCl (wCod cI cZ cQ a ali thi ctr_46 cbe_46 har_46 mar tol) H → va_D A (wCod cI cZ cQ a ali thi ctr_46 cbe_46 har_46 mar tol) → va_S A s.heap H locs → lv_has ls 6 [(0, .ref (a 28)), (1, .int fi), (2, .int n), (3, .int us), (4, .int ha), (5, .int y46_5)] → W p l e (headSpec wsX0_seek { frames := 8, cells := 0, slots := 0, locals := 190 }).room s m ([.ref (a 28), .int fi, .int n, .int us, .int ha] : List Value).toArray below meth c H locs 0 0 (MQ below (va_Qv (fun (u : US) => (rg 6 (0) (23) (u.1 0))) (Bw (dC, dI) A (fun u : US => (wCod cI cZ cQ a ali thi (u.1 0) (u.1 1) (u.1 2 0) mar tol))) A) ([.ref (a 28), .int fi, .int n, .int us, .int ha] : List Value).toArray s 0 0 A) (F0 m 46 ls []) := by
          intro nn
          induction nn with
          | zero =>
            intro y46_5 ctr_46 cbe_46 har_46 H locs ls r_ctr_46 i46_0 i46_1 hm
            exact absurd hm (Nat.not_lt_zero _)
          | succ nn ih46 =>
            intro y46_5 ctr_46 cbe_46 har_46 H locs ls r_ctr_46 i46_0 i46_1 hm hP hD hS hl
            refine lv_iload hx hb dX0_seek_46 (lv_at hl 5 rfl) ?_
            refine lv_iload_n hx hb dX0_seek_48 rfl (lv_at hl 2 rfl) ?_
            refine lv_icmp_ge (tgt := 102) hx hb dX0_seek_49 (by decide) (fun c5 => ?_) (fun c5 => ?_)
            · have dc5 : n.toInt ≤ y46_5.toInt := leC rfl rfl c5
              exact W.vret hx hb hr (fun t ht hW => ⟨⟨(uS [ctr_46, cbe_46, (fun _ => har_46)] 0 (fun _ => 0)), rfl, r_ctr_46, by rw [ht]; exact hP, hD⟩, hS.F ht⟩) hS.2.2 dX0_seek_102
            · have dc5 : y46_5.toInt < n.toInt := nleC rfl rfl c5
              refine lv_iload_n hx hb dX0_seek_52 rfl (lv_at hl 3 rfl) ?_
              refine lv_iload hx hb dX0_seek_53 (lv_at hl 5 rfl) ?_
              refine lv_ishr hx hb dX0_seek_55 ?_
              refine lv_iconst (v := 1) hx hb dX0_seek_56 (by decide) ?_
              refine lv_iand hx hb dX0_seek_57 ?_
              have f6 := andR (a := (us >>> (y46_5 &&& 31))) (m := 1) (M := 1) rfl (by decide)
              refine lv_if_ne (tgt := 96) hx hb dX0_seek_58 (by decide) (fun c7 => ?_) (fun c7 => ?_)
              · have dc7 : ((us >>> (y46_5 &&& 31)) &&& 1).toInt ≠ 0 := neC rfl (show (0 : Int32).toInt = 0 from rfl) c7
                obtain ⟨z8, ez8⟩ : ∃ y : Int32, y = y46_5 + 1 := ⟨_, rfl⟩
                have iz8 : z8.toInt = y46_5.toInt + 1 := by rw [ez8]; exact addC rfl rfl (by omega) (by omega)
                refine lv_iinc (v := z8) (lv' := [(5, .int z8), (0, .ref (a 28)), (1, .int fi), (2, .int n), (3, .int us), (4, .int ha)]) hx hb dX0_seek_96 hl (k := 5) rfl (by rw [ez8]; rfl) (by decide) rfl (fun ls hl => ?_)
                refine lv_goto (tgt := 46) hx hb dX0_seek_99 (by decide) ?_
                exact ih46 z8 ctr_46 cbe_46 har_46 _ _ _ r_ctr_46 (by omega) (by omega) (by omega) hP hD hS (lv_sub hl [1, 2, 3, 4, 5, 0] rfl)
              · have dc7 : ((us >>> (y46_5 &&& 31)) &&& 1).toInt = 0 := eqC rfl (show (0 : Int32).toInt = 0 from rfl) c7
                refine lv_aload_n hx hb dX0_seek_61 rfl (lv_at hl 0 rfl) ?_
                refine va_get (D := (dC, dI)) (ci := 0) (v := .ref (a 31)) (C := RX0) (T := TX0) (N := 6) hx hb hts inX0 hown hK hP 0 rfl rfl 3 (by decide) lf18 (fun _ h9 => h9) rfl dX0_seek_62 ?_
                refine lv_iload_n hx hb dX0_seek_65 rfl (lv_at hl 1 rfl) ?_
                refine lv_aload_n hx hb dX0_seek_66 rfl (lv_at hl 0 rfl) ?_
                refine va_get (D := (dC, dI)) (ci := 0) (v := .ref (a 30)) (C := RX0) (T := TX0) (N := 6) hx hb hts inX0 hown hK hP 0 rfl rfl 2 (by decide) lf15 (fun _ h9 => h9) rfl dX0_seek_67 ?_
                refine lv_iload hx hb dX0_seek_70 (lv_at hl 5 rfl) ?_
                have b9 : vp_in y46_5 8 := inC rfl (by omega) (by omega)
                refine va_iald hx hb hK hP 2 0 rfl rfl b9 dX0_seek_72 ?_
                have g10 : 0 ≤ (thi y46_5.toNatClampNeg).toInt ∧ (thi y46_5.toNatClampNeg).toInt ≤ 23 := rg_at r_thi b9
                refine lv_topi (fun x11 ex11 => ?_)
                have ix11 : x11.toInt = (thi y46_5.toNatClampNeg).toInt := by rw [ex11]
                have b12 : vp_in fi 6 := inC rfl (by omega) (by omega)
                have g13 : rg 6 (0) (23) (upd ctr_46 fi.toNatClampNeg x11) := rg_upd r_ctr_46 rfl (by omega) (by omega)
                refine va_iast hx hb hK hP hD hS 3 0 rfl rfl b12 dX0_seek_73 (fun H locs hP hD hS => ?_)
                obtain ⟨ctr_u14, ectr_u14⟩ : ∃ f : Nat → Int32, f = upd ctr_46 fi.toNatClampNeg x11 := ⟨_, rfl⟩
                have rctr_u14 : rg 6 (0) (23) ctr_u14 := by rw [ectr_u14]; exact g13
                have hP : va_P (dC, dI) vwCl (wCod cI cZ cQ a ali thi ctr_u14 cbe_46 har_46 mar tol) H := by rw [ectr_u14]; exact hP
                have hD : va_D A (wCod cI cZ cQ a ali thi ctr_u14 cbe_46 har_46 mar tol) := by rw [ectr_u14]; exact hD
                refine lv_aload_n hx hb dX0_seek_74 rfl (lv_at hl 0 rfl) ?_
                refine lv_iload_n hx hb dX0_seek_75 rfl (lv_at hl 1 rfl) ?_
                refine lv_iconst (v := 1) hx hb dX0_seek_76 (by decide) ?_
                refine lv_iadd hx hb dX0_seek_77 ?_
                have f15 : (fi + 1).toInt = (fi.toInt) + (1) := addC rfl (show (1 : Int32).toInt = 1 from rfl) (by omega) (by omega)
                refine lv_iload_n hx hb dX0_seek_78 rfl (lv_at hl 2 rfl) ?_
                refine lv_iload_n hx hb dX0_seek_79 rfl (lv_at hl 3 rfl) ?_
                refine lv_iconst (v := 1) hx hb dX0_seek_80 (by decide) ?_
                refine lv_iload hx hb dX0_seek_81 (lv_at hl 5 rfl) ?_
                refine lv_ishl hx hb dX0_seek_83 ?_
                have f16 : 1 ≤ ((1 : Int32) <<< (y46_5 &&& 31)).toInt ∧ ((1 : Int32) <<< (y46_5 &&& 31)).toInt ≤ 32 := shl1 rfl (by omega) 5 (by omega) (by decide)
                refine lv_ior hx hb dX0_seek_84 ?_
                refine lv_iload hx hb dX0_seek_85 (lv_at hl 4 rfl) ?_
                refine lv_aload_n hx hb dX0_seek_87 rfl (lv_at hl 0 rfl) ?_
                refine lv_iload_n hx hb dX0_seek_88 rfl (lv_at hl 1 rfl) ?_
                refine rdV (As := [.int fi]) (rest := [.int ha, .int (us ||| ((1 : Int32) <<< (y46_5 &&& 31))), .int n, .int (fi + 1), .ref (a 28)]) ⟨hx, hb, hml, hown, hts⟩ (k_X0_harmOf l dC dI cI cZ cQ a ali thi ctr_u14 cbe_46 har_46 mar tol fi r_thi rctr_u14 r_mar r_tol (by omega) (by omega)) (cwV 1 hts gX0_seek_X0_harmOf rfl rfl rfl (by decide +kernel) ⟨Nat.le_of_ble_eq_true rfl, Nat.le_of_ble_eq_true rfl⟩) hP hK hN [0, 1, 2, 3, 4, 5, 6, 7] rfl 0 0 rfl rfl rfl hl.1 rfl (Nat.le_of_ble_eq_true rfl) dX0_seek_89 ⟨Nat.le_of_ble_eq_true rfl, Nat.le_of_ble_eq_true rfl⟩ (fun r17 h18 => ?_)
                have h18 : True := h18
                refine lv_iadd hx hb dX0_seek_92 ?_
                refine wvV (As := [.int (fi + 1), .int n, .int (us ||| ((1 : Int32) <<< (y46_5 &&& 31))), .int (ha + r17)]) (rest := []) (wr := []) (w2 := (fun u : US => (wCod cI cZ cQ a ali thi (u.1 0) (u.1 1) (u.1 2 0) mar tol))) ⟨hx, hb, hml, hown, hts⟩ (k_X0_seek_4 l dC dI cI cZ cQ a ali thi ctr_u14 cbe_46 har_46 mar tol _ (fi + 1) n (us ||| ((1 : Int32) <<< (y46_5 &&& 31))) (ha + r17) r_thi rctr_u14 r_mar r_tol (by omega) (by omega) (by omega) (by omega)) (cwV 4 hts gX0_seek_X0_seek rfl rfl rfl (by decide +kernel) ⟨Nat.le_of_ble_eq_true rfl, Nat.le_of_ble_eq_true rfl⟩) hP hD hS hA hK hN [0, 1, 2, 3, 4, 5, 6, 7] [] [0, 1, 2, 3, 4, 5, 6, 7] rfl rfl (by decide) (by decide) (by decide) (fun _ => rfl) (by decide) 0 0 rfl rfl rfl hl.1 rfl (Nat.le_of_ble_eq_true rfl) dX0_seek_93 ⟨Nat.le_of_ble_eq_true rfl, Nat.le_of_ble_eq_true rfl⟩ (fun u21 H locs h20 hP hD hS => ?_)
                obtain ⟨ctr_c22, ectr_c22⟩ : ∃ f : Nat → Int32, f = (u21.1 0) := ⟨_, rfl⟩
                obtain ⟨cbe_c23, ecbe_c23⟩ : ∃ f : Nat → Int32, f = (u21.1 1) := ⟨_, rfl⟩
                obtain ⟨har_c24, ehar_c24⟩ : ∃ f : Int32, f = (u21.1 2 0) := ⟨_, rfl⟩
                have hP : va_P (dC, dI) vwCl (wCod cI cZ cQ a ali thi ctr_c22 cbe_c23 har_c24 mar tol) H := by rw [ectr_c22, ecbe_c23, ehar_c24]; exact hP
                have hD : va_D A (wCod cI cZ cQ a ali thi ctr_c22 cbe_c23 har_c24 mar tol) := by rw [ectr_c22, ecbe_c23, ehar_c24]; exact hD
                have h20 : (rg 6 (0) (23) ctr_c22) := by (try rw [ectr_c22]); (try rw [ecbe_c23]); (try rw [ehar_c24]); exact h20
                have h20_0 := h20
                obtain ⟨z25, ez25⟩ : ∃ y : Int32, y = y46_5 + 1 := ⟨_, rfl⟩
                have iz25 : z25.toInt = y46_5.toInt + 1 := by rw [ez25]; exact addC rfl rfl (by omega) (by omega)
                refine lv_iinc (v := z25) (lv' := [(5, .int z25), (0, .ref (a 28)), (1, .int fi), (2, .int n), (3, .int us), (4, .int ha)]) hx hb dX0_seek_96 hl (k := 5) rfl (by rw [ez25]; rfl) (by decide) rfl (fun ls hl => ?_)
                refine lv_goto (tgt := 46) hx hb dX0_seek_99 (by decide) ?_
                exact ih46 z25 ctr_c22 cbe_c23 har_c24 _ _ _ h20_0 (by omega) (by omega) (by omega) hP hD hS (lv_sub hl [1, 2, 3, 4, 5, 0] rfl)
        have kc26 : (0 : Int32).toInt = 0 := rfl
        exact L46 _ 0 ctr cbe har _ _ _ r_ctr (by omega) (by omega) (Nat.lt_succ_self _) hP hD hS (lv_sub hl [1, 2, 3, 4, 5, 0] rfl)
      · have dc4 : 6 ≤ fi.toInt := nltC rfl (show (6 : Int32).toInt = 6 from rfl) c4
        exfalso
        omega
  · have dc1 : har.toInt ≤ ha.toInt := nltC rfl rfl c1
    exact W.vret hx hb hr (fun t ht hW => ⟨⟨(uS [ctr, cbe, (fun _ => har)] 0 (fun _ => 0)), rfl, r_ctr, by rw [ht]; exact hP, hD⟩, hS.F ht⟩) hS.2.2 dX0_seek_9
set_option maxHeartbeats 4000000 in
set_option maxRecDepth 100000 in
theorem k_X0_seek_6 (l : Launch) (dC : Nat → ClassId) (dI : Nat → Nat → Nat) (cI cZ cQ : ClassId) (a : Nat → Nat) (ali : Nat → Int32) (thi : Nat → Int32) (ctr : Nat → Int32) (cbe : Nat → Int32) (har : Int32) (mar : Nat → Int32) (tol : Nat → Int32) (sz : Nat) (fi : Int32) (n : Int32) (us : Int32) (ha : Int32) (r_thi : rg 8 (0) (23) thi) (r_ctr : rg 6 (0) (23) ctr) (r_mar : rg 24 (0) (255) mar) (r_tol : rg 8 (0) (23) tol) (q0 : 0 ≤ fi.toInt) (q1 : fi.toInt ≤ 6) (q2 : 2 ≤ n.toInt) (q3 : n.toInt ≤ 6) : KV l yX0_seek wsX0_seek { frames := 9, cells := 0, slots := 0, locals := 215 } (dC, dI) (TY cI cZ cQ) (wCod cI cZ cQ a ali thi ctr cbe har mar tol) [.ref (a 28), .int fi, .int n, .int us, .int ha] sz 0 0 (fun (u : US) => (rg 6 (0) (23) (u.1 0))) (fun u : US => (wCod cI cZ cQ a ali thi (u.1 0) (u.1 1) (u.1 2 0) mar tol)) := by
  refine Met.ofW (cc := cX0_seek) (maxL := 6) (ret := none) (by decide) rfl ?_
  intro p e s m args below meth c s₁ B hml hv
  obtain ⟨rfl, hsz, hP, hK, hD0, hN⟩ := hv
  have hx := B.exec
  have hb := B.bytes
  have hr := B.returns
  have hts := atoms_spec (ws := wsX0_seek) B.pre
  have hown : s.vm.findClass RX0 = some m.cls := findClass_of_methodNamed B.named
  have hlocks := B.notSynchronized
  have lf34 := hts (.fieldLink RX0 34 "PalaceOfRooms$Codes" "bestHarm" "I") (List.mem_cons_of_mem _ (List.mem_append_left _ (List.mem_append_left _ (List.mem_append_left _ (List.mem_of_getElem? (i := 0) rfl)))))
  have inX0 : ∀ w ∈ wsX00, w ∈ wsX0_seek := fun w h => List.mem_cons_of_mem _ (List.mem_append_left _ (List.mem_append_right _ h))
  have lf18 := hts (.fieldLink RX0 18 "PalaceOfRooms$Codes" "trial" "[I") (List.mem_cons_of_mem _ (List.mem_append_left _ (List.mem_append_left _ (List.mem_append_left _ (List.mem_of_getElem? (i := 1) rfl)))))
  have lf21 := hts (.fieldLink RX0 21 "PalaceOfRooms$Codes" "best" "[I") (List.mem_cons_of_mem _ (List.mem_append_left _ (List.mem_append_left _ (List.mem_append_left _ (List.mem_of_getElem? (i := 2) rfl)))))
  have lf15 := hts (.fieldLink RX0 15 "PalaceOfRooms$Codes" "things" "[I") (List.mem_cons_of_mem _ (List.mem_append_left _ (List.mem_append_left _ (List.mem_append_left _ (List.mem_of_getElem? (i := 7) rfl)))))
  subst hsz
  have hD := hD0.self (sz := s.heap.size)
  generalize hAe : va_A (wCod cI cZ cQ a ali thi ctr cbe har mar tol) s.heap.size = A at hD ⊢
  have hA : ∀ q : Nat, s.heap.size ≤ q → A q := fun q h => by rw [← hAe]; exact Or.inr h
  have hS : va_S A s.heap s.heap [] := va_S.rf
  have hl := lv_entry ([.ref (a 28), .int fi, .int n, .int us, .int ha]) (n := 6) (Nat.le_of_ble_eq_true rfl)
  rw [lg_entry_eq]
  generalize (lg_sl ([.ref (a 28), .int fi, .int n, .int us, .int ha]) ++ List.replicate (6 - (lg_sl ([.ref (a 28), .int fi, .int n, .int us, .int ha])).length) Slot.unset).toArray = ls at hl ⊢
  have hl : lv_has ls 6 [(0, .ref (a 28)), (1, .int fi), (2, .int n), (3, .int us), (4, .int ha)] := hl
  refine lv_iload hx hb dX0_seek_0 (lv_at hl 4 rfl) ?_
  refine lv_aload_n hx hb dX0_seek_2 rfl (lv_at hl 0 rfl) ?_
  refine va_get (D := (dC, dI)) (ci := 0) (v := .int har) (C := RX0) (T := TX0) (N := 6) hx hb hts inX0 hown hK hP 0 rfl rfl 5 (by decide) lf34 (fun _ h9 => h9) rfl dX0_seek_3 ?_
  refine lv_icmp_lt (tgt := 10) hx hb dX0_seek_6 (by decide) (fun c1 => ?_) (fun c1 => ?_)
  · have dc1 : ha.toInt < har.toInt := ltC rfl rfl c1
    refine lv_iload_n hx hb dX0_seek_10 rfl (lv_at hl 1 rfl) ?_
    refine lv_iload_n hx hb dX0_seek_11 rfl (lv_at hl 2 rfl) ?_
    refine lv_icmp_ge (tgt := 21) hx hb dX0_seek_12 (by decide) (fun c2 => ?_) (fun c2 => ?_)
    · have dc2 : n.toInt ≤ fi.toInt := leC rfl rfl c2
      refine lv_aload_n hx hb dX0_seek_21 rfl (lv_at hl 0 rfl) ?_
      refine lv_iload hx hb dX0_seek_22 (lv_at hl 4 rfl) ?_
      refine va_put (D := (dC, dI)) (ci := 0) (v := .int ha) (ty := .int) (C := RX0) (T := TX0) (N := 6) hx hb hts inX0 tyX0 tyX0_ok nmX0 hown hK hP hD hS 0 rfl rfl 5 (by decide) lf34 (fun _ h9 => h9) rfl (by decide +kernel) rfl rfl (Nat.le_of_ble_eq_true rfl) dX0_seek_24 (fun H locs hP hD hS => ?_)
      have hP : va_P (dC, dI) vwCl (wCod cI cZ cQ a ali thi ctr cbe ha mar tol) H := hP
      have hD : va_D A (wCod cI cZ cQ a ali thi ctr cbe ha mar tol) := hD
      refine lv_aload_n hx hb dX0_seek_27 rfl (lv_at hl 0 rfl) ?_
      refine va_get (D := (dC, dI)) (ci := 0) (v := .ref (a 31)) (C := RX0) (T := TX0) (N := 6) hx hb hts inX0 hown hK hP 0 rfl rfl 3 (by decide) lf18 (fun _ h9 => h9) rfl dX0_seek_28 ?_
      refine lv_iconst (v := 0) hx hb dX0_seek_31 (by decide) ?_
      refine lv_aload_n hx hb dX0_seek_32 rfl (lv_at hl 0 rfl) ?_
      refine va_get (D := (dC, dI)) (ci := 0) (v := .ref (a 32)) (C := RX0) (T := TX0) (N := 6) hx hb hts inX0 hown hK hP 0 rfl rfl 4 (by decide) lf21 (fun _ h9 => h9) rfl dX0_seek_33 ?_
      refine lv_iconst (v := 0) hx hb dX0_seek_36 (by decide) ?_
      refine lv_bipush (v := 6) hx hb dX0_seek_37 (by decide) ?_
      refine va_copyi (ty := .int) (n := 6) hx hb (by rw [hml]; exact hl.1.symm) hown (hts (.methodLink RX0 28 arraycopyName) (List.mem_cons_of_mem _ (List.mem_append_left _ (List.mem_append_left _ (List.mem_append_left _ (List.mem_of_getElem? (i := 3) rfl)))))) (hts (.native arraycopyName) (List.mem_cons_of_mem _ (List.mem_append_left _ (List.mem_append_left _ (List.mem_append_left _ (List.mem_of_getElem? (i := 4) rfl)))))) (hts (.static arraycopyName) (List.mem_cons_of_mem _ (List.mem_append_left _ (List.mem_append_left _ (List.mem_append_left _ (List.mem_of_getElem? (i := 5) rfl)))))) (hts (.initialized "java/lang/System") (List.mem_cons_of_mem _ (List.mem_append_left _ (List.mem_append_left _ (List.mem_append_left _ (List.mem_of_getElem? (i := 6) rfl)))))) hK hP hD hS 3 4 0 0 rfl rfl rfl rfl rfl (by decide) (by decide) (by decide) (by decide) (by decide) (fun _ _ => rfl) (Nat.le_of_ble_eq_true rfl) (Nat.le_of_ble_eq_true rfl) dX0_seek_39 (fun H locs hP hD hS => ?_)
      obtain ⟨cbe_u3, ecbe_u3⟩ : ∃ f : Nat → Int32, f = va_cpy ctr cbe 0 0 6 := ⟨_, rfl⟩
      have hP : va_P (dC, dI) vwCl (wCod cI cZ cQ a ali thi ctr cbe_u3 ha mar tol) H := by rw [ecbe_u3]; exact hP
      have hD : va_D A (wCod cI cZ cQ a ali thi ctr cbe_u3 ha mar tol) := by rw [ecbe_u3]; exact hD
      exact W.vret hx hb hr (fun t ht hW => ⟨⟨(uS [ctr, cbe_u3, (fun _ => ha)] 0 (fun _ => 0)), rfl, r_ctr, by rw [ht]; exact hP, hD⟩, hS.F ht⟩) hS.2.2 dX0_seek_42
    · have dc2 : fi.toInt < n.toInt := nleC rfl rfl c2
      refine lv_iload_n hx hb dX0_seek_15 rfl (lv_at hl 1 rfl) ?_
      refine lv_bipush (v := 6) hx hb dX0_seek_16 (by decide) ?_
      refine lv_icmp_lt (tgt := 43) hx hb dX0_seek_18 (by decide) (fun c4 => ?_) (fun c4 => ?_)
      · have dc4 : fi.toInt < 6 := ltC rfl (show (6 : Int32).toInt = 6 from rfl) c4
        refine lv_iconst (v := 0) hx hb dX0_seek_43 (by decide) ?_
        refine lv_istore (lv' := [(5, .int 0), (0, .ref (a 28)), (1, .int fi), (2, .int n), (3, .int us), (4, .int ha)]) hx hb dX0_seek_44 hl (by decide) rfl (fun ls hl => ?_)
        have L46 : ∀ (nn : Nat) (y46_5 : Int32) (ctr_46 : Nat → Int32) (cbe_46 : Nat → Int32) (har_46 : Int32) (H : Heap) (locs : List Loc) (ls : Array Slot), (rg 6 (0) (23) ctr_46) → (0 ≤ (y46_5.toInt)) → ((y46_5.toInt) ≤ 6) → (6 - (y46_5.toInt)).toNat < nn → va_P (dC, dI) vwCl (wCod cI cZ cQ a ali thi ctr_46 cbe_46 har_46 mar tol) H → va_D A (wCod cI cZ cQ a ali thi ctr_46 cbe_46 har_46 mar tol) → va_S A s.heap H locs → lv_has ls 6 [(0, .ref (a 28)), (1, .int fi), (2, .int n), (3, .int us), (4, .int ha), (5, .int y46_5)] → W p l e (headSpec wsX0_seek { frames := 9, cells := 0, slots := 0, locals := 215 }).room s m ([.ref (a 28), .int fi, .int n, .int us, .int ha] : List Value).toArray below meth c H locs 0 0 (MQ below (va_Qv (fun (u : US) => (rg 6 (0) (23) (u.1 0))) (Bw (dC, dI) A (fun u : US => (wCod cI cZ cQ a ali thi (u.1 0) (u.1 1) (u.1 2 0) mar tol))) A) ([.ref (a 28), .int fi, .int n, .int us, .int ha] : List Value).toArray s 0 0 A) (F0 m 46 ls []) := by
          intro nn
          induction nn with
          | zero =>
            intro y46_5 ctr_46 cbe_46 har_46 H locs ls r_ctr_46 i46_0 i46_1 hm
            exact absurd hm (Nat.not_lt_zero _)
          | succ nn ih46 =>
            intro y46_5 ctr_46 cbe_46 har_46 H locs ls r_ctr_46 i46_0 i46_1 hm hP hD hS hl
            refine lv_iload hx hb dX0_seek_46 (lv_at hl 5 rfl) ?_
            refine lv_iload_n hx hb dX0_seek_48 rfl (lv_at hl 2 rfl) ?_
            refine lv_icmp_ge (tgt := 102) hx hb dX0_seek_49 (by decide) (fun c5 => ?_) (fun c5 => ?_)
            · have dc5 : n.toInt ≤ y46_5.toInt := leC rfl rfl c5
              exact W.vret hx hb hr (fun t ht hW => ⟨⟨(uS [ctr_46, cbe_46, (fun _ => har_46)] 0 (fun _ => 0)), rfl, r_ctr_46, by rw [ht]; exact hP, hD⟩, hS.F ht⟩) hS.2.2 dX0_seek_102
            · have dc5 : y46_5.toInt < n.toInt := nleC rfl rfl c5
              refine lv_iload_n hx hb dX0_seek_52 rfl (lv_at hl 3 rfl) ?_
              refine lv_iload hx hb dX0_seek_53 (lv_at hl 5 rfl) ?_
              refine lv_ishr hx hb dX0_seek_55 ?_
              refine lv_iconst (v := 1) hx hb dX0_seek_56 (by decide) ?_
              refine lv_iand hx hb dX0_seek_57 ?_
              have f6 := andR (a := (us >>> (y46_5 &&& 31))) (m := 1) (M := 1) rfl (by decide)
              refine lv_if_ne (tgt := 96) hx hb dX0_seek_58 (by decide) (fun c7 => ?_) (fun c7 => ?_)
              · have dc7 : ((us >>> (y46_5 &&& 31)) &&& 1).toInt ≠ 0 := neC rfl (show (0 : Int32).toInt = 0 from rfl) c7
                obtain ⟨z8, ez8⟩ : ∃ y : Int32, y = y46_5 + 1 := ⟨_, rfl⟩
                have iz8 : z8.toInt = y46_5.toInt + 1 := by rw [ez8]; exact addC rfl rfl (by omega) (by omega)
                refine lv_iinc (v := z8) (lv' := [(5, .int z8), (0, .ref (a 28)), (1, .int fi), (2, .int n), (3, .int us), (4, .int ha)]) hx hb dX0_seek_96 hl (k := 5) rfl (by rw [ez8]; rfl) (by decide) rfl (fun ls hl => ?_)
                refine lv_goto (tgt := 46) hx hb dX0_seek_99 (by decide) ?_
                exact ih46 z8 ctr_46 cbe_46 har_46 _ _ _ r_ctr_46 (by omega) (by omega) (by omega) hP hD hS (lv_sub hl [1, 2, 3, 4, 5, 0] rfl)
              · have dc7 : ((us >>> (y46_5 &&& 31)) &&& 1).toInt = 0 := eqC rfl (show (0 : Int32).toInt = 0 from rfl) c7
                refine lv_aload_n hx hb dX0_seek_61 rfl (lv_at hl 0 rfl) ?_
                refine va_get (D := (dC, dI)) (ci := 0) (v := .ref (a 31)) (C := RX0) (T := TX0) (N := 6) hx hb hts inX0 hown hK hP 0 rfl rfl 3 (by decide) lf18 (fun _ h9 => h9) rfl dX0_seek_62 ?_
                refine lv_iload_n hx hb dX0_seek_65 rfl (lv_at hl 1 rfl) ?_
                refine lv_aload_n hx hb dX0_seek_66 rfl (lv_at hl 0 rfl) ?_
                refine va_get (D := (dC, dI)) (ci := 0) (v := .ref (a 30)) (C := RX0) (T := TX0) (N := 6) hx hb hts inX0 hown hK hP 0 rfl rfl 2 (by decide) lf15 (fun _ h9 => h9) rfl dX0_seek_67 ?_
                refine lv_iload hx hb dX0_seek_70 (lv_at hl 5 rfl) ?_
                have b9 : vp_in y46_5 8 := inC rfl (by omega) (by omega)
                refine va_iald hx hb hK hP 2 0 rfl rfl b9 dX0_seek_72 ?_
                have g10 : 0 ≤ (thi y46_5.toNatClampNeg).toInt ∧ (thi y46_5.toNatClampNeg).toInt ≤ 23 := rg_at r_thi b9
                refine lv_topi (fun x11 ex11 => ?_)
                have ix11 : x11.toInt = (thi y46_5.toNatClampNeg).toInt := by rw [ex11]
                have b12 : vp_in fi 6 := inC rfl (by omega) (by omega)
                have g13 : rg 6 (0) (23) (upd ctr_46 fi.toNatClampNeg x11) := rg_upd r_ctr_46 rfl (by omega) (by omega)
                refine va_iast hx hb hK hP hD hS 3 0 rfl rfl b12 dX0_seek_73 (fun H locs hP hD hS => ?_)
                obtain ⟨ctr_u14, ectr_u14⟩ : ∃ f : Nat → Int32, f = upd ctr_46 fi.toNatClampNeg x11 := ⟨_, rfl⟩
                have rctr_u14 : rg 6 (0) (23) ctr_u14 := by rw [ectr_u14]; exact g13
                have hP : va_P (dC, dI) vwCl (wCod cI cZ cQ a ali thi ctr_u14 cbe_46 har_46 mar tol) H := by rw [ectr_u14]; exact hP
                have hD : va_D A (wCod cI cZ cQ a ali thi ctr_u14 cbe_46 har_46 mar tol) := by rw [ectr_u14]; exact hD
                refine lv_aload_n hx hb dX0_seek_74 rfl (lv_at hl 0 rfl) ?_
                refine lv_iload_n hx hb dX0_seek_75 rfl (lv_at hl 1 rfl) ?_
                refine lv_iconst (v := 1) hx hb dX0_seek_76 (by decide) ?_
                refine lv_iadd hx hb dX0_seek_77 ?_
                have f15 : (fi + 1).toInt = (fi.toInt) + (1) := addC rfl (show (1 : Int32).toInt = 1 from rfl) (by omega) (by omega)
                refine lv_iload_n hx hb dX0_seek_78 rfl (lv_at hl 2 rfl) ?_
                refine lv_iload_n hx hb dX0_seek_79 rfl (lv_at hl 3 rfl) ?_
                refine lv_iconst (v := 1) hx hb dX0_seek_80 (by decide) ?_
                refine lv_iload hx hb dX0_seek_81 (lv_at hl 5 rfl) ?_
                refine lv_ishl hx hb dX0_seek_83 ?_
                have f16 : 1 ≤ ((1 : Int32) <<< (y46_5 &&& 31)).toInt ∧ ((1 : Int32) <<< (y46_5 &&& 31)).toInt ≤ 32 := shl1 rfl (by omega) 5 (by omega) (by decide)
                refine lv_ior hx hb dX0_seek_84 ?_
                refine lv_iload hx hb dX0_seek_85 (lv_at hl 4 rfl) ?_
                refine lv_aload_n hx hb dX0_seek_87 rfl (lv_at hl 0 rfl) ?_
                refine lv_iload_n hx hb dX0_seek_88 rfl (lv_at hl 1 rfl) ?_
                refine rdV (As := [.int fi]) (rest := [.int ha, .int (us ||| ((1 : Int32) <<< (y46_5 &&& 31))), .int n, .int (fi + 1), .ref (a 28)]) ⟨hx, hb, hml, hown, hts⟩ (k_X0_harmOf l dC dI cI cZ cQ a ali thi ctr_u14 cbe_46 har_46 mar tol fi r_thi rctr_u14 r_mar r_tol (by omega) (by omega)) (cwV 1 hts gX0_seek_X0_harmOf rfl rfl rfl (by decide +kernel) ⟨Nat.le_of_ble_eq_true rfl, Nat.le_of_ble_eq_true rfl⟩) hP hK hN [0, 1, 2, 3, 4, 5, 6, 7] rfl 0 0 rfl rfl rfl hl.1 rfl (Nat.le_of_ble_eq_true rfl) dX0_seek_89 ⟨Nat.le_of_ble_eq_true rfl, Nat.le_of_ble_eq_true rfl⟩ (fun r17 h18 => ?_)
                have h18 : True := h18
                refine lv_iadd hx hb dX0_seek_92 ?_
                refine wvV (As := [.int (fi + 1), .int n, .int (us ||| ((1 : Int32) <<< (y46_5 &&& 31))), .int (ha + r17)]) (rest := []) (wr := []) (w2 := (fun u : US => (wCod cI cZ cQ a ali thi (u.1 0) (u.1 1) (u.1 2 0) mar tol))) ⟨hx, hb, hml, hown, hts⟩ (k_X0_seek_5 l dC dI cI cZ cQ a ali thi ctr_u14 cbe_46 har_46 mar tol _ (fi + 1) n (us ||| ((1 : Int32) <<< (y46_5 &&& 31))) (ha + r17) r_thi rctr_u14 r_mar r_tol (by omega) (by omega) (by omega) (by omega)) (cwV 4 hts gX0_seek_X0_seek rfl rfl rfl (by decide +kernel) ⟨Nat.le_of_ble_eq_true rfl, Nat.le_of_ble_eq_true rfl⟩) hP hD hS hA hK hN [0, 1, 2, 3, 4, 5, 6, 7] [] [0, 1, 2, 3, 4, 5, 6, 7] rfl rfl (by decide) (by decide) (by decide) (fun _ => rfl) (by decide) 0 0 rfl rfl rfl hl.1 rfl (Nat.le_of_ble_eq_true rfl) dX0_seek_93 ⟨Nat.le_of_ble_eq_true rfl, Nat.le_of_ble_eq_true rfl⟩ (fun u21 H locs h20 hP hD hS => ?_)
                obtain ⟨ctr_c22, ectr_c22⟩ : ∃ f : Nat → Int32, f = (u21.1 0) := ⟨_, rfl⟩
                obtain ⟨cbe_c23, ecbe_c23⟩ : ∃ f : Nat → Int32, f = (u21.1 1) := ⟨_, rfl⟩
                obtain ⟨har_c24, ehar_c24⟩ : ∃ f : Int32, f = (u21.1 2 0) := ⟨_, rfl⟩
                have hP : va_P (dC, dI) vwCl (wCod cI cZ cQ a ali thi ctr_c22 cbe_c23 har_c24 mar tol) H := by rw [ectr_c22, ecbe_c23, ehar_c24]; exact hP
                have hD : va_D A (wCod cI cZ cQ a ali thi ctr_c22 cbe_c23 har_c24 mar tol) := by rw [ectr_c22, ecbe_c23, ehar_c24]; exact hD
                have h20 : (rg 6 (0) (23) ctr_c22) := by (try rw [ectr_c22]); (try rw [ecbe_c23]); (try rw [ehar_c24]); exact h20
                have h20_0 := h20
                obtain ⟨z25, ez25⟩ : ∃ y : Int32, y = y46_5 + 1 := ⟨_, rfl⟩
                have iz25 : z25.toInt = y46_5.toInt + 1 := by rw [ez25]; exact addC rfl rfl (by omega) (by omega)
                refine lv_iinc (v := z25) (lv' := [(5, .int z25), (0, .ref (a 28)), (1, .int fi), (2, .int n), (3, .int us), (4, .int ha)]) hx hb dX0_seek_96 hl (k := 5) rfl (by rw [ez25]; rfl) (by decide) rfl (fun ls hl => ?_)
                refine lv_goto (tgt := 46) hx hb dX0_seek_99 (by decide) ?_
                exact ih46 z25 ctr_c22 cbe_c23 har_c24 _ _ _ h20_0 (by omega) (by omega) (by omega) hP hD hS (lv_sub hl [1, 2, 3, 4, 5, 0] rfl)
        have kc26 : (0 : Int32).toInt = 0 := rfl
        exact L46 _ 0 ctr cbe har _ _ _ r_ctr (by omega) (by omega) (Nat.lt_succ_self _) hP hD hS (lv_sub hl [1, 2, 3, 4, 5, 0] rfl)
      · have dc4 : 6 ≤ fi.toInt := nltC rfl (show (6 : Int32).toInt = 6 from rfl) c4
        exfalso
        omega
  · have dc1 : har.toInt ≤ ha.toInt := nltC rfl rfl c1
    exact W.vret hx hb hr (fun t ht hW => ⟨⟨(uS [ctr, cbe, (fun _ => har)] 0 (fun _ => 0)), rfl, r_ctr, by rw [ht]; exact hP, hD⟩, hS.F ht⟩) hS.2.2 dX0_seek_9
set_option maxHeartbeats 4000000 in
set_option maxRecDepth 100000 in
theorem k_X0_findBest (l : Launch) (dC : Nat → ClassId) (dI : Nat → Nat → Nat) (cI cZ cQ : ClassId) (a : Nat → Nat) (ali : Nat → Int32) (thi : Nat → Int32) (ctr : Nat → Int32) (cbe : Nat → Int32) (har : Int32) (mar : Nat → Int32) (tol : Nat → Int32) (sz : Nat) (n : Int32) (r_thi : rg 8 (0) (23) thi) (r_ctr : rg 6 (0) (23) ctr) (r_mar : rg 24 (0) (255) mar) (r_tol : rg 8 (0) (23) tol) (q0 : 2 ≤ n.toInt) (q1 : n.toInt ≤ 6) : KV l yX0_findBest wsX0_findBest { frames := 10, cells := 0, slots := 0, locals := 240 } (dC, dI) (TY cI cZ cQ) (wCod cI cZ cQ a ali thi ctr cbe har mar tol) [.ref (a 28), .ref (a 42), .int n] sz 0 0 (fun (u : US) => (rg 8 (0) (23) (u.1 0)) ∧ (rg 6 (0) (23) (u.1 1))) (fun u : US => (wCod cI cZ cQ a ali (u.1 0) (u.1 1) (u.1 2) (u.1 3 0) mar tol)) := by
  refine Met.ofW (cc := cX0_findBest) (maxL := 3) (ret := none) (by decide) rfl ?_
  intro p e s m args below meth c s₁ B hml hv
  obtain ⟨rfl, hsz, hP, hK, hD0, hN⟩ := hv
  have hx := B.exec
  have hb := B.bytes
  have hr := B.returns
  have hts := atoms_spec (ws := wsX0_findBest) B.pre
  have hown : s.vm.findClass RX0 = some m.cls := findClass_of_methodNamed B.named
  have hlocks := B.notSynchronized
  have lf15 := hts (.fieldLink RX0 15 "PalaceOfRooms$Codes" "things" "[I") (List.mem_cons_of_mem _ (List.mem_append_left _ (List.mem_append_left _ (List.mem_append_left _ (List.mem_of_getElem? (i := 0) rfl)))))
  have inX0 : ∀ w ∈ wsX00, w ∈ wsX0_findBest := fun w h => List.mem_cons_of_mem _ (List.mem_append_left _ (List.mem_append_right _ h))
  have lf34 := hts (.fieldLink RX0 34 "PalaceOfRooms$Codes" "bestHarm" "I") (List.mem_cons_of_mem _ (List.mem_append_left _ (List.mem_append_left _ (List.mem_append_left _ (List.mem_of_getElem? (i := 5) rfl)))))
  subst hsz
  have hD := hD0.self (sz := s.heap.size)
  generalize hAe : va_A (wCod cI cZ cQ a ali thi ctr cbe har mar tol) s.heap.size = A at hD ⊢
  have hA : ∀ q : Nat, s.heap.size ≤ q → A q := fun q h => by rw [← hAe]; exact Or.inr h
  have hS : va_S A s.heap s.heap [] := va_S.rf
  have hl := lv_entry ([.ref (a 28), .ref (a 42), .int n]) (n := 3) (Nat.le_of_ble_eq_true rfl)
  rw [lg_entry_eq]
  generalize (lg_sl ([.ref (a 28), .ref (a 42), .int n]) ++ List.replicate (3 - (lg_sl ([.ref (a 28), .ref (a 42), .int n])).length) Slot.unset).toArray = ls at hl ⊢
  have hl : lv_has ls 3 [(0, .ref (a 28)), (1, .ref (a 42)), (2, .int n)] := hl
  refine lv_aload_n hx hb dX0_findBest_0 rfl (lv_at hl 1 rfl) ?_
  refine lv_iconst (v := 0) hx hb dX0_findBest_1 (by decide) ?_
  refine lv_aload_n hx hb dX0_findBest_2 rfl (lv_at hl 0 rfl) ?_
  refine va_get (D := (dC, dI)) (ci := 0) (v := .ref (a 30)) (C := RX0) (T := TX0) (N := 6) hx hb hts inX0 hown hK hP 0 rfl rfl 2 (by decide) lf15 (fun _ h9 => h9) rfl dX0_findBest_3 ?_
  refine lv_iconst (v := 0) hx hb dX0_findBest_6 (by decide) ?_
  refine lv_bipush (v := 8) hx hb dX0_findBest_7 (by decide) ?_
  refine va_copyi (ty := .int) (n := 8) hx hb (by rw [hml]; exact hl.1.symm) hown (hts (.methodLink RX0 28 arraycopyName) (List.mem_cons_of_mem _ (List.mem_append_left _ (List.mem_append_left _ (List.mem_append_left _ (List.mem_of_getElem? (i := 1) rfl)))))) (hts (.native arraycopyName) (List.mem_cons_of_mem _ (List.mem_append_left _ (List.mem_append_left _ (List.mem_append_left _ (List.mem_of_getElem? (i := 2) rfl)))))) (hts (.static arraycopyName) (List.mem_cons_of_mem _ (List.mem_append_left _ (List.mem_append_left _ (List.mem_append_left _ (List.mem_of_getElem? (i := 3) rfl)))))) (hts (.initialized "java/lang/System") (List.mem_cons_of_mem _ (List.mem_append_left _ (List.mem_append_left _ (List.mem_append_left _ (List.mem_of_getElem? (i := 4) rfl)))))) hK hP hD hS 7 2 0 0 rfl rfl rfl rfl rfl (by decide) (by decide) (by decide) (by decide) (by decide) (fun _ _ => rfl) (Nat.le_of_ble_eq_true rfl) (Nat.le_of_ble_eq_true rfl) dX0_findBest_9 (fun H locs hP hD hS => ?_)
  have g1 : rg 8 (0) (23) (va_cpy tol thi 0 0 8) := rg_cpy r_tol r_thi (by decide)
  obtain ⟨thi_u2, ethi_u2⟩ : ∃ f : Nat → Int32, f = va_cpy tol thi 0 0 8 := ⟨_, rfl⟩
  have rthi_u2 : rg 8 (0) (23) thi_u2 := by rw [ethi_u2]; exact g1
  have hP : va_P (dC, dI) vwCl (wCod cI cZ cQ a ali thi_u2 ctr cbe har mar tol) H := by rw [ethi_u2]; exact hP
  have hD : va_D A (wCod cI cZ cQ a ali thi_u2 ctr cbe har mar tol) := by rw [ethi_u2]; exact hD
  refine lv_aload_n hx hb dX0_findBest_12 rfl (lv_at hl 0 rfl) ?_
  refine lv_sipush (v := 2592) hx hb dX0_findBest_13 (by decide) ?_
  refine va_put (D := (dC, dI)) (ci := 0) (v := .int 2592) (ty := .int) (C := RX0) (T := TX0) (N := 6) hx hb hts inX0 tyX0 tyX0_ok nmX0 hown hK hP hD hS 0 rfl rfl 5 (by decide) lf34 (fun _ h9 => h9) rfl (by decide +kernel) rfl rfl (Nat.le_of_ble_eq_true rfl) dX0_findBest_16 (fun H locs hP hD hS => ?_)
  have hP : va_P (dC, dI) vwCl (wCod cI cZ cQ a ali thi_u2 ctr cbe 2592 mar tol) H := hP
  have hD : va_D A (wCod cI cZ cQ a ali thi_u2 ctr cbe 2592 mar tol) := hD
  refine lv_aload_n hx hb dX0_findBest_19 rfl (lv_at hl 0 rfl) ?_
  refine lv_iconst (v := 0) hx hb dX0_findBest_20 (by decide) ?_
  refine lv_iload_n hx hb dX0_findBest_21 rfl (lv_at hl 2 rfl) ?_
  refine lv_iconst (v := 0) hx hb dX0_findBest_22 (by decide) ?_
  refine lv_iconst (v := 0) hx hb dX0_findBest_23 (by decide) ?_
  have kc0 : (0 : Int32).toInt = 0 := rfl
  refine wvV (As := [.int 0, .int n, .int 0, .int 0]) (rest := []) (wr := []) (w2 := (fun u : US => (wCod cI cZ cQ a ali thi_u2 (u.1 0) (u.1 1) (u.1 2 0) mar tol))) ⟨hx, hb, hml, hown, hts⟩ (k_X0_seek_6 l dC dI cI cZ cQ a ali thi_u2 ctr cbe 2592 mar tol _ (0 : Int32) n (0 : Int32) (0 : Int32) rthi_u2 r_ctr r_mar r_tol (by omega) (by omega) (by omega) (by omega)) (cwV 4 hts gX0_findBest_X0_seek rfl rfl rfl (by decide +kernel) ⟨Nat.le_of_ble_eq_true rfl, Nat.le_of_ble_eq_true rfl⟩) hP hD hS hA hK hN [0, 1, 2, 3, 4, 5, 6, 7] [] [0, 1, 2, 3, 4, 5, 6, 7] rfl rfl (by decide) (by decide) (by decide) (fun _ => rfl) (by decide) 0 0 rfl rfl rfl hl.1 rfl (Nat.le_of_ble_eq_true rfl) dX0_findBest_24 ⟨Nat.le_of_ble_eq_true rfl, Nat.le_of_ble_eq_true rfl⟩ (fun u5 H locs h4 hP hD hS => ?_)
  obtain ⟨ctr_c6, ectr_c6⟩ : ∃ f : Nat → Int32, f = (u5.1 0) := ⟨_, rfl⟩
  obtain ⟨cbe_c7, ecbe_c7⟩ : ∃ f : Nat → Int32, f = (u5.1 1) := ⟨_, rfl⟩
  obtain ⟨har_c8, ehar_c8⟩ : ∃ f : Int32, f = (u5.1 2 0) := ⟨_, rfl⟩
  have hP : va_P (dC, dI) vwCl (wCod cI cZ cQ a ali thi_u2 ctr_c6 cbe_c7 har_c8 mar tol) H := by rw [ectr_c6, ecbe_c7, ehar_c8]; exact hP
  have hD : va_D A (wCod cI cZ cQ a ali thi_u2 ctr_c6 cbe_c7 har_c8 mar tol) := by rw [ectr_c6, ecbe_c7, ehar_c8]; exact hD
  have h4 : (rg 6 (0) (23) ctr_c6) := by (try rw [ectr_c6]); (try rw [ecbe_c7]); (try rw [ehar_c8]); exact h4
  have h4_0 := h4
  exact W.vret hx hb hr (fun t ht hW => ⟨⟨(uS [thi_u2, ctr_c6, cbe_c7, (fun _ => har_c8)] 0 (fun _ => 0)), rfl, ⟨rthi_u2, h4_0⟩, by rw [ht]; exact hP, hD⟩, hS.F ht⟩) hS.2.2 dX0_findBest_27
end
section
set_option maxRecDepth 20000 in
theorem dqX10_in_p100 : dz_rn 0 (cX10_in.data.toList.drop 0) [(0, 0), (0, 1), (4, 3), (0, 0), (0, 2), (4, 5), (0, 9), (4, 0), (0, 8), (0, 12)] = some [(0, .iload_n 0, 1), (1, .iload_n 1, 1), (2, .if_icmp .lt 12, 3), (5, .iload_n 0, 1), (6, .iload_n 2, 1), (7, .if_icmp .gt 7, 3), (10, .iconst 1, 1), (11, .goto 4, 3), (14, .iconst 0, 1), (15, .ireturn, 1)] := by decide +kernel
theorem dX10_in_0 : decode cX10_in 0 = .ok (.iload_n 0, 1) := dz_at dqX10_in_p100 0 rfl
theorem dX10_in_1 : decode cX10_in 1 = .ok (.iload_n 1, 1) := dz_at dqX10_in_p100 1 rfl
theorem dX10_in_2 : decode cX10_in 2 = .ok (.if_icmp .lt 12, 3) := dz_at dqX10_in_p100 2 rfl
theorem dX10_in_5 : decode cX10_in 5 = .ok (.iload_n 0, 1) := dz_at dqX10_in_p100 3 rfl
theorem dX10_in_6 : decode cX10_in 6 = .ok (.iload_n 2, 1) := dz_at dqX10_in_p100 4 rfl
theorem dX10_in_7 : decode cX10_in 7 = .ok (.if_icmp .gt 7, 3) := dz_at dqX10_in_p100 5 rfl
theorem dX10_in_10 : decode cX10_in 10 = .ok (.iconst 1, 1) := dz_at dqX10_in_p100 6 rfl
theorem dX10_in_11 : decode cX10_in 11 = .ok (.goto 4, 3) := dz_at dqX10_in_p100 7 rfl
theorem dX10_in_14 : decode cX10_in 14 = .ok (.iconst 0, 1) := dz_at dqX10_in_p100 8 rfl
theorem dX10_in_15 : decode cX10_in 15 = .ok (.ireturn, 1) := dz_at dqX10_in_p100 9 rfl
set_option maxRecDepth 20000 in
theorem ggX10_isRoom_X10_in : GoodIn wsX10_isRoom wsX10_in := goodIn_r _ [4] rfl (by decide +kernel)
set_option maxRecDepth 20000 in
theorem gX10_isRoom_X10_in : GoodIn wsX10_isRoom (va_wsS RX10 93 yX10_in wsX10_in) := goodIn_app (goodIn_of _ (by decide +kernel)) ggX10_isRoom_X10_in
set_option maxRecDepth 20000 in
theorem dqX10_isRoom_p100 : dz_rn 0 (cX10_isRoom.data.toList.drop 0) [(0, 0), (0, 8), (2, 0), (3, 2), (0, 12)] = some [(0, .iload_n 0, 1), (1, .iconst 0, 1), (2, .bipush 7, 2), (4, .invokestatic 93, 3), (7, .ireturn, 1)] := by decide +kernel
theorem dX10_isRoom_0 : decode cX10_isRoom 0 = .ok (.iload_n 0, 1) := dz_at dqX10_isRoom_p100 0 rfl
theorem dX10_isRoom_1 : decode cX10_isRoom 1 = .ok (.iconst 0, 1) := dz_at dqX10_isRoom_p100 1 rfl
theorem dX10_isRoom_2 : decode cX10_isRoom 2 = .ok (.bipush 7, 2) := dz_at dqX10_isRoom_p100 2 rfl
theorem dX10_isRoom_4 : decode cX10_isRoom 4 = .ok (.invokestatic 93, 3) := dz_at dqX10_isRoom_p100 3 rfl
theorem dX10_isRoom_7 : decode cX10_isRoom 7 = .ok (.ireturn, 1) := dz_at dqX10_isRoom_p100 4 rfl
set_option maxRecDepth 20000 in
theorem ggX10_isCorner_X10_in : GoodIn wsX10_isCorner wsX10_in := goodIn_r _ [4] rfl (by decide +kernel)
set_option maxRecDepth 20000 in
theorem gX10_isCorner_X10_in : GoodIn wsX10_isCorner (va_wsS RX10 93 yX10_in wsX10_in) := goodIn_app (goodIn_of _ (by decide +kernel)) ggX10_isCorner_X10_in
set_option maxRecDepth 20000 in
theorem dqX10_isCorner_p100 : dz_rn 0 (cX10_isCorner.data.toList.drop 0) [(0, 0), (0, 8), (2, 0), (3, 2), (0, 12)] = some [(0, .iload_n 0, 1), (1, .iconst 0, 1), (2, .bipush 47, 2), (4, .invokestatic 93, 3), (7, .ireturn, 1)] := by decide +kernel
theorem dX10_isCorner_0 : decode cX10_isCorner 0 = .ok (.iload_n 0, 1) := dz_at dqX10_isCorner_p100 0 rfl
theorem dX10_isCorner_1 : decode cX10_isCorner 1 = .ok (.iconst 0, 1) := dz_at dqX10_isCorner_p100 1 rfl
theorem dX10_isCorner_2 : decode cX10_isCorner 2 = .ok (.bipush 47, 2) := dz_at dqX10_isCorner_p100 2 rfl
theorem dX10_isCorner_4 : decode cX10_isCorner 4 = .ok (.invokestatic 93, 3) := dz_at dqX10_isCorner_p100 3 rfl
theorem dX10_isCorner_7 : decode cX10_isCorner 7 = .ok (.ireturn, 1) := dz_at dqX10_isCorner_p100 4 rfl
set_option maxRecDepth 20000 in
theorem ggX10_isThing_X10_in : GoodIn wsX10_isThing wsX10_in := goodIn_r _ [4] rfl (by decide +kernel)
set_option maxRecDepth 20000 in
theorem gX10_isThing_X10_in : GoodIn wsX10_isThing (va_wsS RX10 93 yX10_in wsX10_in) := goodIn_app (goodIn_of _ (by decide +kernel)) ggX10_isThing_X10_in
set_option maxRecDepth 20000 in
theorem dqX10_isThing_p100 : dz_rn 0 (cX10_isThing.data.toList.drop 0) [(0, 0), (0, 8), (2, 0), (3, 2), (0, 12)] = some [(0, .iload_n 0, 1), (1, .iconst 0, 1), (2, .bipush 23, 2), (4, .invokestatic 93, 3), (7, .ireturn, 1)] := by decide +kernel
theorem dX10_isThing_0 : decode cX10_isThing 0 = .ok (.iload_n 0, 1) := dz_at dqX10_isThing_p100 0 rfl
theorem dX10_isThing_1 : decode cX10_isThing 1 = .ok (.iconst 0, 1) := dz_at dqX10_isThing_p100 1 rfl
theorem dX10_isThing_2 : decode cX10_isThing 2 = .ok (.bipush 23, 2) := dz_at dqX10_isThing_p100 2 rfl
theorem dX10_isThing_4 : decode cX10_isThing 4 = .ok (.invokestatic 93, 3) := dz_at dqX10_isThing_p100 3 rfl
theorem dX10_isThing_7 : decode cX10_isThing 7 = .ok (.ireturn, 1) := dz_at dqX10_isThing_p100 4 rfl
set_option maxRecDepth 20000 in
theorem dqX10_likeness_p100 : dz_rn 0 (cX10_likeness.data.toList.drop 0) [(0, 4), (3, 0), (0, 1), (0, 10), (0, 4), (3, 0), (0, 2), (0, 10), (0, 29), (0, 21), (0, 8), (1, 1), (0, 8), (1, 1)] = some [(0, .aload_n 0, 1), (1, .getfield 19, 3), (4, .iload_n 1, 1), (5, .iaload, 1), (6, .aload_n 0, 1), (7, .getfield 19, 3), (10, .iload_n 2, 1), (11, .iaload, 1), (12, .iand, 1), (13, .istore_n 3, 1), (14, .iconst 0, 1), (15, .istore 4, 2), (17, .iconst 0, 1), (18, .istore 5, 2)] := by decide +kernel
theorem dX10_likeness_0 : decode cX10_likeness 0 = .ok (.aload_n 0, 1) := dz_at dqX10_likeness_p100 0 rfl
theorem dX10_likeness_1 : decode cX10_likeness 1 = .ok (.getfield 19, 3) := dz_at dqX10_likeness_p100 1 rfl
theorem dX10_likeness_4 : decode cX10_likeness 4 = .ok (.iload_n 1, 1) := dz_at dqX10_likeness_p100 2 rfl
theorem dX10_likeness_5 : decode cX10_likeness 5 = .ok (.iaload, 1) := dz_at dqX10_likeness_p100 3 rfl
theorem dX10_likeness_6 : decode cX10_likeness 6 = .ok (.aload_n 0, 1) := dz_at dqX10_likeness_p100 4 rfl
theorem dX10_likeness_7 : decode cX10_likeness 7 = .ok (.getfield 19, 3) := dz_at dqX10_likeness_p100 5 rfl
theorem dX10_likeness_10 : decode cX10_likeness 10 = .ok (.iload_n 2, 1) := dz_at dqX10_likeness_p100 6 rfl
theorem dX10_likeness_11 : decode cX10_likeness 11 = .ok (.iaload, 1) := dz_at dqX10_likeness_p100 7 rfl
theorem dX10_likeness_12 : decode cX10_likeness 12 = .ok (.iand, 1) := dz_at dqX10_likeness_p100 8 rfl
theorem dX10_likeness_13 : decode cX10_likeness 13 = .ok (.istore_n 3, 1) := dz_at dqX10_likeness_p100 9 rfl
theorem dX10_likeness_14 : decode cX10_likeness 14 = .ok (.iconst 0, 1) := dz_at dqX10_likeness_p100 10 rfl
theorem dX10_likeness_15 : decode cX10_likeness 15 = .ok (.istore 4, 2) := dz_at dqX10_likeness_p100 11 rfl
theorem dX10_likeness_17 : decode cX10_likeness 17 = .ok (.iconst 0, 1) := dz_at dqX10_likeness_p100 12 rfl
theorem dX10_likeness_18 : decode cX10_likeness 18 = .ok (.istore 5, 2) := dz_at dqX10_likeness_p100 13 rfl
set_option maxRecDepth 20000 in
theorem dqX10_likeness_p101 : dz_rn 20 (cX10_likeness.data.toList.drop 20) [(1, 0), (2, 0), (4, 4), (1, 0), (0, 3), (1, 0), (0, 32), (0, 9), (0, 29), (0, 11), (1, 1), (5, 0), (4, 0), (1, 0)] = some [(20, .iload 5, 2), (22, .bipush 8, 2), (24, .if_icmp .ge 20, 3), (27, .iload 4, 2), (29, .iload_n 3, 1), (30, .iload 5, 2), (32, .ishr, 1), (33, .iconst 1, 1), (34, .iand, 1), (35, .iadd, 1), (36, .istore 4, 2), (38, .iinc 5 1, 3), (41, .goto (-21), 3), (44, .iload 4, 2)] := by decide +kernel
theorem dX10_likeness_20 : decode cX10_likeness 20 = .ok (.iload 5, 2) := dz_at dqX10_likeness_p101 0 rfl
theorem dX10_likeness_22 : decode cX10_likeness 22 = .ok (.bipush 8, 2) := dz_at dqX10_likeness_p101 1 rfl
theorem dX10_likeness_24 : decode cX10_likeness 24 = .ok (.if_icmp .ge 20, 3) := dz_at dqX10_likeness_p101 2 rfl
theorem dX10_likeness_27 : decode cX10_likeness 27 = .ok (.iload 4, 2) := dz_at dqX10_likeness_p101 3 rfl
theorem dX10_likeness_29 : decode cX10_likeness 29 = .ok (.iload_n 3, 1) := dz_at dqX10_likeness_p101 4 rfl
theorem dX10_likeness_30 : decode cX10_likeness 30 = .ok (.iload 5, 2) := dz_at dqX10_likeness_p101 5 rfl
theorem dX10_likeness_32 : decode cX10_likeness 32 = .ok (.ishr, 1) := dz_at dqX10_likeness_p101 6 rfl
theorem dX10_likeness_33 : decode cX10_likeness 33 = .ok (.iconst 1, 1) := dz_at dqX10_likeness_p101 7 rfl
theorem dX10_likeness_34 : decode cX10_likeness 34 = .ok (.iand, 1) := dz_at dqX10_likeness_p101 8 rfl
theorem dX10_likeness_35 : decode cX10_likeness 35 = .ok (.iadd, 1) := dz_at dqX10_likeness_p101 9 rfl
theorem dX10_likeness_36 : decode cX10_likeness 36 = .ok (.istore 4, 2) := dz_at dqX10_likeness_p101 10 rfl
theorem dX10_likeness_38 : decode cX10_likeness 38 = .ok (.iinc 5 1, 3) := dz_at dqX10_likeness_p101 11 rfl
theorem dX10_likeness_41 : decode cX10_likeness 41 = .ok (.goto (-21), 3) := dz_at dqX10_likeness_p101 12 rfl
theorem dX10_likeness_44 : decode cX10_likeness 44 = .ok (.iload 4, 2) := dz_at dqX10_likeness_p101 13 rfl
theorem dX10_likeness_46 : decode cX10_likeness 46 = .ok (.ireturn, 1) := by decide +kernel
set_option maxRecDepth 20000 in
theorem dqX10_areJoined_p100 : dz_rn 0 (cX10_areJoined.data.toList.drop 0) [(0, 8), (0, 21), (0, 8), (1, 1), (1, 0), (0, 4), (3, 0), (4, 4), (0, 3), (4, 8), (0, 4), (3, 0), (1, 0), (0, 10)] = some [(0, .iconst 0, 1), (1, .istore_n 3, 1), (2, .iconst 0, 1), (3, .istore 4, 2), (5, .iload 4, 2), (7, .aload_n 0, 1), (8, .getfield 97, 3), (11, .if_icmp .ge 63, 3), (14, .iload_n 3, 1), (15, .ifCond .ne 47, 3), (18, .aload_n 0, 1), (19, .getfield 7, 3), (22, .iload 4, 2), (24, .iaload, 1)] := by decide +kernel
theorem dX10_areJoined_0 : decode cX10_areJoined 0 = .ok (.iconst 0, 1) := dz_at dqX10_areJoined_p100 0 rfl
theorem dX10_areJoined_1 : decode cX10_areJoined 1 = .ok (.istore_n 3, 1) := dz_at dqX10_areJoined_p100 1 rfl
theorem dX10_areJoined_2 : decode cX10_areJoined 2 = .ok (.iconst 0, 1) := dz_at dqX10_areJoined_p100 2 rfl
theorem dX10_areJoined_3 : decode cX10_areJoined 3 = .ok (.istore 4, 2) := dz_at dqX10_areJoined_p100 3 rfl
theorem dX10_areJoined_5 : decode cX10_areJoined 5 = .ok (.iload 4, 2) := dz_at dqX10_areJoined_p100 4 rfl
theorem dX10_areJoined_7 : decode cX10_areJoined 7 = .ok (.aload_n 0, 1) := dz_at dqX10_areJoined_p100 5 rfl
theorem dX10_areJoined_8 : decode cX10_areJoined 8 = .ok (.getfield 97, 3) := dz_at dqX10_areJoined_p100 6 rfl
theorem dX10_areJoined_11 : decode cX10_areJoined 11 = .ok (.if_icmp .ge 63, 3) := dz_at dqX10_areJoined_p100 7 rfl
theorem dX10_areJoined_14 : decode cX10_areJoined 14 = .ok (.iload_n 3, 1) := dz_at dqX10_areJoined_p100 8 rfl
theorem dX10_areJoined_15 : decode cX10_areJoined 15 = .ok (.ifCond .ne 47, 3) := dz_at dqX10_areJoined_p100 9 rfl
theorem dX10_areJoined_18 : decode cX10_areJoined 18 = .ok (.aload_n 0, 1) := dz_at dqX10_areJoined_p100 10 rfl
theorem dX10_areJoined_19 : decode cX10_areJoined 19 = .ok (.getfield 7, 3) := dz_at dqX10_areJoined_p100 11 rfl
theorem dX10_areJoined_22 : decode cX10_areJoined 22 = .ok (.iload 4, 2) := dz_at dqX10_areJoined_p100 12 rfl
theorem dX10_areJoined_24 : decode cX10_areJoined 24 = .ok (.iaload, 1) := dz_at dqX10_areJoined_p100 13 rfl
set_option maxRecDepth 20000 in
theorem dqX10_areJoined_p101 : dz_rn 25 (cX10_areJoined.data.toList.drop 25) [(0, 1), (4, 2), (0, 4), (3, 0), (1, 0), (0, 10), (0, 2), (4, 1), (0, 4), (3, 0), (1, 0), (0, 10), (0, 2), (4, 2)] = some [(25, .iload_n 1, 1), (26, .if_icmp .ne 14, 3), (29, .aload_n 0, 1), (30, .getfield 13, 3), (33, .iload 4, 2), (35, .iaload, 1), (36, .iload_n 2, 1), (37, .if_icmp .eq 25, 3), (40, .aload_n 0, 1), (41, .getfield 7, 3), (44, .iload 4, 2), (46, .iaload, 1), (47, .iload_n 2, 1), (48, .if_icmp .ne 18, 3)] := by decide +kernel
theorem dX10_areJoined_25 : decode cX10_areJoined 25 = .ok (.iload_n 1, 1) := dz_at dqX10_areJoined_p101 0 rfl
theorem dX10_areJoined_26 : decode cX10_areJoined 26 = .ok (.if_icmp .ne 14, 3) := dz_at dqX10_areJoined_p101 1 rfl
theorem dX10_areJoined_29 : decode cX10_areJoined 29 = .ok (.aload_n 0, 1) := dz_at dqX10_areJoined_p101 2 rfl
theorem dX10_areJoined_30 : decode cX10_areJoined 30 = .ok (.getfield 13, 3) := dz_at dqX10_areJoined_p101 3 rfl
theorem dX10_areJoined_33 : decode cX10_areJoined 33 = .ok (.iload 4, 2) := dz_at dqX10_areJoined_p101 4 rfl
theorem dX10_areJoined_35 : decode cX10_areJoined 35 = .ok (.iaload, 1) := dz_at dqX10_areJoined_p101 5 rfl
theorem dX10_areJoined_36 : decode cX10_areJoined 36 = .ok (.iload_n 2, 1) := dz_at dqX10_areJoined_p101 6 rfl
theorem dX10_areJoined_37 : decode cX10_areJoined 37 = .ok (.if_icmp .eq 25, 3) := dz_at dqX10_areJoined_p101 7 rfl
theorem dX10_areJoined_40 : decode cX10_areJoined 40 = .ok (.aload_n 0, 1) := dz_at dqX10_areJoined_p101 8 rfl
theorem dX10_areJoined_41 : decode cX10_areJoined 41 = .ok (.getfield 7, 3) := dz_at dqX10_areJoined_p101 9 rfl
theorem dX10_areJoined_44 : decode cX10_areJoined 44 = .ok (.iload 4, 2) := dz_at dqX10_areJoined_p101 10 rfl
theorem dX10_areJoined_46 : decode cX10_areJoined 46 = .ok (.iaload, 1) := dz_at dqX10_areJoined_p101 11 rfl
theorem dX10_areJoined_47 : decode cX10_areJoined 47 = .ok (.iload_n 2, 1) := dz_at dqX10_areJoined_p101 12 rfl
theorem dX10_areJoined_48 : decode cX10_areJoined 48 = .ok (.if_icmp .ne 18, 3) := dz_at dqX10_areJoined_p101 13 rfl
set_option maxRecDepth 20000 in
theorem dqX10_areJoined_p102 : dz_rn 51 (cX10_areJoined.data.toList.drop 51) [(0, 4), (3, 0), (1, 0), (0, 10), (0, 1), (4, 2), (0, 9), (4, 0), (0, 8), (0, 21), (5, 0), (4, 0), (0, 3), (0, 12)] = some [(51, .aload_n 0, 1), (52, .getfield 13, 3), (55, .iload 4, 2), (57, .iaload, 1), (58, .iload_n 1, 1), (59, .if_icmp .ne 7, 3), (62, .iconst 1, 1), (63, .goto 4, 3), (66, .iconst 0, 1), (67, .istore_n 3, 1), (68, .iinc 4 1, 3), (71, .goto (-66), 3), (74, .iload_n 3, 1), (75, .ireturn, 1)] := by decide +kernel
theorem dX10_areJoined_51 : decode cX10_areJoined 51 = .ok (.aload_n 0, 1) := dz_at dqX10_areJoined_p102 0 rfl
theorem dX10_areJoined_52 : decode cX10_areJoined 52 = .ok (.getfield 13, 3) := dz_at dqX10_areJoined_p102 1 rfl
theorem dX10_areJoined_55 : decode cX10_areJoined 55 = .ok (.iload 4, 2) := dz_at dqX10_areJoined_p102 2 rfl
theorem dX10_areJoined_57 : decode cX10_areJoined 57 = .ok (.iaload, 1) := dz_at dqX10_areJoined_p102 3 rfl
theorem dX10_areJoined_58 : decode cX10_areJoined 58 = .ok (.iload_n 1, 1) := dz_at dqX10_areJoined_p102 4 rfl
theorem dX10_areJoined_59 : decode cX10_areJoined 59 = .ok (.if_icmp .ne 7, 3) := dz_at dqX10_areJoined_p102 5 rfl
theorem dX10_areJoined_62 : decode cX10_areJoined 62 = .ok (.iconst 1, 1) := dz_at dqX10_areJoined_p102 6 rfl
theorem dX10_areJoined_63 : decode cX10_areJoined 63 = .ok (.goto 4, 3) := dz_at dqX10_areJoined_p102 7 rfl
theorem dX10_areJoined_66 : decode cX10_areJoined 66 = .ok (.iconst 0, 1) := dz_at dqX10_areJoined_p102 8 rfl
theorem dX10_areJoined_67 : decode cX10_areJoined 67 = .ok (.istore_n 3, 1) := dz_at dqX10_areJoined_p102 9 rfl
theorem dX10_areJoined_68 : decode cX10_areJoined 68 = .ok (.iinc 4 1, 3) := dz_at dqX10_areJoined_p102 10 rfl
theorem dX10_areJoined_71 : decode cX10_areJoined 71 = .ok (.goto (-66), 3) := dz_at dqX10_areJoined_p102 11 rfl
theorem dX10_areJoined_74 : decode cX10_areJoined 74 = .ok (.iload_n 3, 1) := dz_at dqX10_areJoined_p102 12 rfl
theorem dX10_areJoined_75 : decode cX10_areJoined 75 = .ok (.ireturn, 1) := dz_at dqX10_areJoined_p102 13 rfl
set_option maxRecDepth 20000 in
theorem ggX10_door_X10_isRoom : GoodIn wsX10_door wsX10_isRoom := goodIn_r _ [7, 8, 9, 6, 10] rfl (by decide +kernel)
set_option maxRecDepth 20000 in
theorem gX10_door_X10_isRoom : GoodIn wsX10_door (va_wsS RX10 100 yX10_isRoom wsX10_isRoom) := goodIn_app (goodIn_of _ (by decide +kernel)) ggX10_door_X10_isRoom
set_option maxRecDepth 20000 in
theorem ggX10_door_X10_areJoined : GoodIn wsX10_door wsX10_areJoined := goodIn_r _ [14, 1, 2, 3, 15, 16, 17, 18, 19, 20, 21, 22, 23, 24, 25, 26, 27, 28, 29, 30, 31, 32, 33, 34, 35, 36, 37, 38, 39, 40, 41, 42, 43, 44, 45, 46, 47, 48, 49, 50, 51, 52, 53] rfl (by decide +kernel)
set_option maxRecDepth 20000 in
theorem gX10_door_X10_areJoined : GoodIn wsX10_door (wsV RX10 104 RX10 yX10_areJoined wsX10_areJoined) := goodIn_app (goodIn_of _ (by decide +kernel)) ggX10_door_X10_areJoined
set_option maxRecDepth 20000 in
theorem dqX10_door_p100 : dz_rn 0 (cX10_door.data.toList.drop 0) [(0, 1), (3, 2), (4, 7), (0, 2), (3, 2), (4, 7), (0, 1), (0, 2), (4, 2), (2, 0), (0, 12), (0, 4), (0, 1), (0, 2)] = some [(0, .iload_n 1, 1), (1, .invokestatic 100, 3), (4, .ifCond .eq 15, 3), (7, .iload_n 2, 1), (8, .invokestatic 100, 3), (11, .ifCond .eq 8, 3), (14, .iload_n 1, 1), (15, .iload_n 2, 1), (16, .if_icmp .ne 6, 3), (19, .bipush (-2), 2), (21, .ireturn, 1), (22, .aload_n 0, 1), (23, .iload_n 1, 1), (24, .iload_n 2, 1)] := by decide +kernel
theorem dX10_door_0 : decode cX10_door 0 = .ok (.iload_n 1, 1) := dz_at dqX10_door_p100 0 rfl
theorem dX10_door_1 : decode cX10_door 1 = .ok (.invokestatic 100, 3) := dz_at dqX10_door_p100 1 rfl
theorem dX10_door_4 : decode cX10_door 4 = .ok (.ifCond .eq 15, 3) := dz_at dqX10_door_p100 2 rfl
theorem dX10_door_7 : decode cX10_door 7 = .ok (.iload_n 2, 1) := dz_at dqX10_door_p100 3 rfl
theorem dX10_door_8 : decode cX10_door 8 = .ok (.invokestatic 100, 3) := dz_at dqX10_door_p100 4 rfl
theorem dX10_door_11 : decode cX10_door 11 = .ok (.ifCond .eq 8, 3) := dz_at dqX10_door_p100 5 rfl
theorem dX10_door_14 : decode cX10_door 14 = .ok (.iload_n 1, 1) := dz_at dqX10_door_p100 6 rfl
theorem dX10_door_15 : decode cX10_door 15 = .ok (.iload_n 2, 1) := dz_at dqX10_door_p100 7 rfl
theorem dX10_door_16 : decode cX10_door 16 = .ok (.if_icmp .ne 6, 3) := dz_at dqX10_door_p100 8 rfl
theorem dX10_door_19 : decode cX10_door 19 = .ok (.bipush (-2), 2) := dz_at dqX10_door_p100 9 rfl
theorem dX10_door_21 : decode cX10_door 21 = .ok (.ireturn, 1) := dz_at dqX10_door_p100 10 rfl
theorem dX10_door_22 : decode cX10_door 22 = .ok (.aload_n 0, 1) := dz_at dqX10_door_p100 11 rfl
theorem dX10_door_23 : decode cX10_door 23 = .ok (.iload_n 1, 1) := dz_at dqX10_door_p100 12 rfl
theorem dX10_door_24 : decode cX10_door 24 = .ok (.iload_n 2, 1) := dz_at dqX10_door_p100 13 rfl
set_option maxRecDepth 20000 in
theorem dqX10_door_p101 : dz_rn 25 (cX10_door.data.toList.drop 25) [(3, 1), (4, 7), (2, 0), (0, 12), (0, 4), (3, 0), (2, 0), (4, 2), (2, 0), (0, 12), (0, 4), (3, 0), (0, 4), (3, 0)] = some [(25, .invokevirtual 104, 3), (28, .ifCond .eq 6, 3), (31, .bipush (-4), 2), (33, .ireturn, 1), (34, .aload_n 0, 1), (35, .getfield 97, 3), (38, .bipush 14, 2), (40, .if_icmp .ne 6, 3), (43, .bipush (-5), 2), (45, .ireturn, 1), (46, .aload_n 0, 1), (47, .getfield 7, 3), (50, .aload_n 0, 1), (51, .getfield 97, 3)] := by decide +kernel
theorem dX10_door_25 : decode cX10_door 25 = .ok (.invokevirtual 104, 3) := dz_at dqX10_door_p101 0 rfl
theorem dX10_door_28 : decode cX10_door 28 = .ok (.ifCond .eq 6, 3) := dz_at dqX10_door_p101 1 rfl
theorem dX10_door_31 : decode cX10_door 31 = .ok (.bipush (-4), 2) := dz_at dqX10_door_p101 2 rfl
theorem dX10_door_33 : decode cX10_door 33 = .ok (.ireturn, 1) := dz_at dqX10_door_p101 3 rfl
theorem dX10_door_34 : decode cX10_door 34 = .ok (.aload_n 0, 1) := dz_at dqX10_door_p101 4 rfl
theorem dX10_door_35 : decode cX10_door 35 = .ok (.getfield 97, 3) := dz_at dqX10_door_p101 5 rfl
theorem dX10_door_38 : decode cX10_door 38 = .ok (.bipush 14, 2) := dz_at dqX10_door_p101 6 rfl
theorem dX10_door_40 : decode cX10_door 40 = .ok (.if_icmp .ne 6, 3) := dz_at dqX10_door_p101 7 rfl
theorem dX10_door_43 : decode cX10_door 43 = .ok (.bipush (-5), 2) := dz_at dqX10_door_p101 8 rfl
theorem dX10_door_45 : decode cX10_door 45 = .ok (.ireturn, 1) := dz_at dqX10_door_p101 9 rfl
theorem dX10_door_46 : decode cX10_door 46 = .ok (.aload_n 0, 1) := dz_at dqX10_door_p101 10 rfl
theorem dX10_door_47 : decode cX10_door 47 = .ok (.getfield 7, 3) := dz_at dqX10_door_p101 11 rfl
theorem dX10_door_50 : decode cX10_door 50 = .ok (.aload_n 0, 1) := dz_at dqX10_door_p101 12 rfl
theorem dX10_door_51 : decode cX10_door 51 = .ok (.getfield 97, 3) := dz_at dqX10_door_p101 13 rfl
set_option maxRecDepth 20000 in
theorem dqX10_door_p102 : dz_rn 54 (cX10_door.data.toList.drop 54) [(0, 1), (0, 22), (0, 4), (3, 0), (0, 4), (3, 0), (0, 2), (0, 22), (0, 4), (0, 28), (3, 0), (0, 9), (0, 11), (3, 3)] = some [(54, .iload_n 1, 1), (55, .iastore, 1), (56, .aload_n 0, 1), (57, .getfield 13, 3), (60, .aload_n 0, 1), (61, .getfield 97, 3), (64, .iload_n 2, 1), (65, .iastore, 1), (66, .aload_n 0, 1), (67, .dup, 1), (68, .getfield 97, 3), (71, .iconst 1, 1), (72, .iadd, 1), (73, .putfield 97, 3)] := by decide +kernel
theorem dX10_door_54 : decode cX10_door 54 = .ok (.iload_n 1, 1) := dz_at dqX10_door_p102 0 rfl
theorem dX10_door_55 : decode cX10_door 55 = .ok (.iastore, 1) := dz_at dqX10_door_p102 1 rfl
theorem dX10_door_56 : decode cX10_door 56 = .ok (.aload_n 0, 1) := dz_at dqX10_door_p102 2 rfl
theorem dX10_door_57 : decode cX10_door 57 = .ok (.getfield 13, 3) := dz_at dqX10_door_p102 3 rfl
theorem dX10_door_60 : decode cX10_door 60 = .ok (.aload_n 0, 1) := dz_at dqX10_door_p102 4 rfl
theorem dX10_door_61 : decode cX10_door 61 = .ok (.getfield 97, 3) := dz_at dqX10_door_p102 5 rfl
theorem dX10_door_64 : decode cX10_door 64 = .ok (.iload_n 2, 1) := dz_at dqX10_door_p102 6 rfl
theorem dX10_door_65 : decode cX10_door 65 = .ok (.iastore, 1) := dz_at dqX10_door_p102 7 rfl
theorem dX10_door_66 : decode cX10_door 66 = .ok (.aload_n 0, 1) := dz_at dqX10_door_p102 8 rfl
theorem dX10_door_67 : decode cX10_door 67 = .ok (.dup, 1) := dz_at dqX10_door_p102 9 rfl
theorem dX10_door_68 : decode cX10_door 68 = .ok (.getfield 97, 3) := dz_at dqX10_door_p102 10 rfl
theorem dX10_door_71 : decode cX10_door 71 = .ok (.iconst 1, 1) := dz_at dqX10_door_p102 11 rfl
theorem dX10_door_72 : decode cX10_door 72 = .ok (.iadd, 1) := dz_at dqX10_door_p102 12 rfl
theorem dX10_door_73 : decode cX10_door 73 = .ok (.putfield 97, 3) := dz_at dqX10_door_p102 13 rfl
set_option maxRecDepth 20000 in
theorem dqX10_door_p103 : dz_rn 76 (cX10_door.data.toList.drop 76) [(0, 4), (3, 0), (0, 12)] = some [(76, .aload_n 0, 1), (77, .getfield 97, 3), (80, .ireturn, 1)] := by decide +kernel
theorem dX10_door_76 : decode cX10_door 76 = .ok (.aload_n 0, 1) := dz_at dqX10_door_p103 0 rfl
theorem dX10_door_77 : decode cX10_door 77 = .ok (.getfield 97, 3) := dz_at dqX10_door_p103 1 rfl
theorem dX10_door_80 : decode cX10_door 80 = .ok (.ireturn, 1) := dz_at dqX10_door_p103 2 rfl
set_option maxRecDepth 20000 in
theorem dqX10_doorsTo_p100 : dz_rn 0 (cX10_doorsTo.data.toList.drop 0) [(0, 8), (0, 21), (0, 3), (2, 0), (4, 4), (0, 4), (3, 0), (0, 3), (0, 3), (0, 1), (4, 2), (0, 8), (4, 0), (2, 0)] = some [(0, .iconst 0, 1), (1, .istore_n 3, 1), (2, .iload_n 3, 1), (3, .bipush 8, 2), (5, .if_icmp .ge 26, 3), (8, .aload_n 0, 1), (9, .getfield 16, 3), (12, .iload_n 3, 1), (13, .iload_n 3, 1), (14, .iload_n 1, 1), (15, .if_icmp .ne 7, 3), (18, .iconst 0, 1), (19, .goto 5, 3), (22, .bipush 100, 2)] := by decide +kernel
theorem dX10_doorsTo_0 : decode cX10_doorsTo 0 = .ok (.iconst 0, 1) := dz_at dqX10_doorsTo_p100 0 rfl
theorem dX10_doorsTo_1 : decode cX10_doorsTo 1 = .ok (.istore_n 3, 1) := dz_at dqX10_doorsTo_p100 1 rfl
theorem dX10_doorsTo_2 : decode cX10_doorsTo 2 = .ok (.iload_n 3, 1) := dz_at dqX10_doorsTo_p100 2 rfl
theorem dX10_doorsTo_3 : decode cX10_doorsTo 3 = .ok (.bipush 8, 2) := dz_at dqX10_doorsTo_p100 3 rfl
theorem dX10_doorsTo_5 : decode cX10_doorsTo 5 = .ok (.if_icmp .ge 26, 3) := dz_at dqX10_doorsTo_p100 4 rfl
theorem dX10_doorsTo_8 : decode cX10_doorsTo 8 = .ok (.aload_n 0, 1) := dz_at dqX10_doorsTo_p100 5 rfl
theorem dX10_doorsTo_9 : decode cX10_doorsTo 9 = .ok (.getfield 16, 3) := dz_at dqX10_doorsTo_p100 6 rfl
theorem dX10_doorsTo_12 : decode cX10_doorsTo 12 = .ok (.iload_n 3, 1) := dz_at dqX10_doorsTo_p100 7 rfl
theorem dX10_doorsTo_13 : decode cX10_doorsTo 13 = .ok (.iload_n 3, 1) := dz_at dqX10_doorsTo_p100 8 rfl
theorem dX10_doorsTo_14 : decode cX10_doorsTo 14 = .ok (.iload_n 1, 1) := dz_at dqX10_doorsTo_p100 9 rfl
theorem dX10_doorsTo_15 : decode cX10_doorsTo 15 = .ok (.if_icmp .ne 7, 3) := dz_at dqX10_doorsTo_p100 10 rfl
theorem dX10_doorsTo_18 : decode cX10_doorsTo 18 = .ok (.iconst 0, 1) := dz_at dqX10_doorsTo_p100 11 rfl
theorem dX10_doorsTo_19 : decode cX10_doorsTo 19 = .ok (.goto 5, 3) := dz_at dqX10_doorsTo_p100 12 rfl
theorem dX10_doorsTo_22 : decode cX10_doorsTo 22 = .ok (.bipush 100, 2) := dz_at dqX10_doorsTo_p100 13 rfl
set_option maxRecDepth 20000 in
theorem dqX10_doorsTo_p101 : dz_rn 24 (cX10_doorsTo.data.toList.drop 24) [(0, 22), (5, 0), (4, 0), (0, 8), (0, 21), (0, 3), (2, 0), (4, 4), (0, 8), (1, 1), (1, 0), (0, 4), (3, 0), (4, 4)] = some [(24, .iastore, 1), (25, .iinc 3 1, 3), (28, .goto (-26), 3), (31, .iconst 0, 1), (32, .istore_n 3, 1), (33, .iload_n 3, 1), (34, .bipush 8, 2), (36, .if_icmp .ge 135, 3), (39, .iconst 0, 1), (40, .istore 4, 2), (42, .iload 4, 2), (44, .aload_n 0, 1), (45, .getfield 97, 3), (48, .if_icmp .ge 117, 3)] := by decide +kernel
theorem dX10_doorsTo_24 : decode cX10_doorsTo 24 = .ok (.iastore, 1) := dz_at dqX10_doorsTo_p101 0 rfl
theorem dX10_doorsTo_25 : decode cX10_doorsTo 25 = .ok (.iinc 3 1, 3) := dz_at dqX10_doorsTo_p101 1 rfl
theorem dX10_doorsTo_28 : decode cX10_doorsTo 28 = .ok (.goto (-26), 3) := dz_at dqX10_doorsTo_p101 2 rfl
theorem dX10_doorsTo_31 : decode cX10_doorsTo 31 = .ok (.iconst 0, 1) := dz_at dqX10_doorsTo_p101 3 rfl
theorem dX10_doorsTo_32 : decode cX10_doorsTo 32 = .ok (.istore_n 3, 1) := dz_at dqX10_doorsTo_p101 4 rfl
theorem dX10_doorsTo_33 : decode cX10_doorsTo 33 = .ok (.iload_n 3, 1) := dz_at dqX10_doorsTo_p101 5 rfl
theorem dX10_doorsTo_34 : decode cX10_doorsTo 34 = .ok (.bipush 8, 2) := dz_at dqX10_doorsTo_p101 6 rfl
theorem dX10_doorsTo_36 : decode cX10_doorsTo 36 = .ok (.if_icmp .ge 135, 3) := dz_at dqX10_doorsTo_p101 7 rfl
theorem dX10_doorsTo_39 : decode cX10_doorsTo 39 = .ok (.iconst 0, 1) := dz_at dqX10_doorsTo_p101 8 rfl
theorem dX10_doorsTo_40 : decode cX10_doorsTo 40 = .ok (.istore 4, 2) := dz_at dqX10_doorsTo_p101 9 rfl
theorem dX10_doorsTo_42 : decode cX10_doorsTo 42 = .ok (.iload 4, 2) := dz_at dqX10_doorsTo_p101 10 rfl
theorem dX10_doorsTo_44 : decode cX10_doorsTo 44 = .ok (.aload_n 0, 1) := dz_at dqX10_doorsTo_p101 11 rfl
theorem dX10_doorsTo_45 : decode cX10_doorsTo 45 = .ok (.getfield 97, 3) := dz_at dqX10_doorsTo_p101 12 rfl
theorem dX10_doorsTo_48 : decode cX10_doorsTo 48 = .ok (.if_icmp .ge 117, 3) := dz_at dqX10_doorsTo_p101 13 rfl
set_option maxRecDepth 20000 in
theorem dqX10_doorsTo_p102 : dz_rn 51 (cX10_doorsTo.data.toList.drop 51) [(0, 4), (3, 0), (1, 0), (0, 10), (1, 1), (0, 4), (3, 0), (1, 0), (0, 10), (1, 1), (0, 4), (3, 0), (1, 0), (0, 4)] = some [(51, .aload_n 0, 1), (52, .getfield 7, 3), (55, .iload 4, 2), (57, .iaload, 1), (58, .istore 5, 2), (60, .aload_n 0, 1), (61, .getfield 13, 3), (64, .iload 4, 2), (66, .iaload, 1), (67, .istore 6, 2), (69, .aload_n 0, 1), (70, .getfield 16, 3), (73, .iload 5, 2), (75, .aload_n 0, 1)] := by decide +kernel
theorem dX10_doorsTo_51 : decode cX10_doorsTo 51 = .ok (.aload_n 0, 1) := dz_at dqX10_doorsTo_p102 0 rfl
theorem dX10_doorsTo_52 : decode cX10_doorsTo 52 = .ok (.getfield 7, 3) := dz_at dqX10_doorsTo_p102 1 rfl
theorem dX10_doorsTo_55 : decode cX10_doorsTo 55 = .ok (.iload 4, 2) := dz_at dqX10_doorsTo_p102 2 rfl
theorem dX10_doorsTo_57 : decode cX10_doorsTo 57 = .ok (.iaload, 1) := dz_at dqX10_doorsTo_p102 3 rfl
theorem dX10_doorsTo_58 : decode cX10_doorsTo 58 = .ok (.istore 5, 2) := dz_at dqX10_doorsTo_p102 4 rfl
theorem dX10_doorsTo_60 : decode cX10_doorsTo 60 = .ok (.aload_n 0, 1) := dz_at dqX10_doorsTo_p102 5 rfl
theorem dX10_doorsTo_61 : decode cX10_doorsTo 61 = .ok (.getfield 13, 3) := dz_at dqX10_doorsTo_p102 6 rfl
theorem dX10_doorsTo_64 : decode cX10_doorsTo 64 = .ok (.iload 4, 2) := dz_at dqX10_doorsTo_p102 7 rfl
theorem dX10_doorsTo_66 : decode cX10_doorsTo 66 = .ok (.iaload, 1) := dz_at dqX10_doorsTo_p102 8 rfl
theorem dX10_doorsTo_67 : decode cX10_doorsTo 67 = .ok (.istore 6, 2) := dz_at dqX10_doorsTo_p102 9 rfl
theorem dX10_doorsTo_69 : decode cX10_doorsTo 69 = .ok (.aload_n 0, 1) := dz_at dqX10_doorsTo_p102 10 rfl
theorem dX10_doorsTo_70 : decode cX10_doorsTo 70 = .ok (.getfield 16, 3) := dz_at dqX10_doorsTo_p102 11 rfl
theorem dX10_doorsTo_73 : decode cX10_doorsTo 73 = .ok (.iload 5, 2) := dz_at dqX10_doorsTo_p102 12 rfl
theorem dX10_doorsTo_75 : decode cX10_doorsTo 75 = .ok (.aload_n 0, 1) := dz_at dqX10_doorsTo_p102 13 rfl
set_option maxRecDepth 20000 in
theorem dqX10_doorsTo_p103 : dz_rn 76 (cX10_doorsTo.data.toList.drop 76) [(3, 0), (1, 0), (0, 10), (0, 9), (0, 11), (0, 4), (3, 0), (1, 0), (0, 10), (4, 4), (0, 4), (3, 0), (1, 0), (0, 10)] = some [(76, .getfield 16, 3), (79, .iload 6, 2), (81, .iaload, 1), (82, .iconst 1, 1), (83, .iadd, 1), (84, .aload_n 0, 1), (85, .getfield 16, 3), (88, .iload 5, 2), (90, .iaload, 1), (91, .if_icmp .ge 15, 3), (94, .aload_n 0, 1), (95, .getfield 16, 3), (98, .iload 6, 2), (100, .iaload, 1)] := by decide +kernel
theorem dX10_doorsTo_76 : decode cX10_doorsTo 76 = .ok (.getfield 16, 3) := dz_at dqX10_doorsTo_p103 0 rfl
theorem dX10_doorsTo_79 : decode cX10_doorsTo 79 = .ok (.iload 6, 2) := dz_at dqX10_doorsTo_p103 1 rfl
theorem dX10_doorsTo_81 : decode cX10_doorsTo 81 = .ok (.iaload, 1) := dz_at dqX10_doorsTo_p103 2 rfl
theorem dX10_doorsTo_82 : decode cX10_doorsTo 82 = .ok (.iconst 1, 1) := dz_at dqX10_doorsTo_p103 3 rfl
theorem dX10_doorsTo_83 : decode cX10_doorsTo 83 = .ok (.iadd, 1) := dz_at dqX10_doorsTo_p103 4 rfl
theorem dX10_doorsTo_84 : decode cX10_doorsTo 84 = .ok (.aload_n 0, 1) := dz_at dqX10_doorsTo_p103 5 rfl
theorem dX10_doorsTo_85 : decode cX10_doorsTo 85 = .ok (.getfield 16, 3) := dz_at dqX10_doorsTo_p103 6 rfl
theorem dX10_doorsTo_88 : decode cX10_doorsTo 88 = .ok (.iload 5, 2) := dz_at dqX10_doorsTo_p103 7 rfl
theorem dX10_doorsTo_90 : decode cX10_doorsTo 90 = .ok (.iaload, 1) := dz_at dqX10_doorsTo_p103 8 rfl
theorem dX10_doorsTo_91 : decode cX10_doorsTo 91 = .ok (.if_icmp .ge 15, 3) := dz_at dqX10_doorsTo_p103 9 rfl
theorem dX10_doorsTo_94 : decode cX10_doorsTo 94 = .ok (.aload_n 0, 1) := dz_at dqX10_doorsTo_p103 10 rfl
theorem dX10_doorsTo_95 : decode cX10_doorsTo 95 = .ok (.getfield 16, 3) := dz_at dqX10_doorsTo_p103 11 rfl
theorem dX10_doorsTo_98 : decode cX10_doorsTo 98 = .ok (.iload 6, 2) := dz_at dqX10_doorsTo_p103 12 rfl
theorem dX10_doorsTo_100 : decode cX10_doorsTo 100 = .ok (.iaload, 1) := dz_at dqX10_doorsTo_p103 13 rfl
set_option maxRecDepth 20000 in
theorem dqX10_doorsTo_p104 : dz_rn 101 (cX10_doorsTo.data.toList.drop 101) [(0, 9), (0, 11), (4, 0), (0, 4), (3, 0), (1, 0), (0, 10), (0, 22), (0, 4), (3, 0), (1, 0), (0, 4), (3, 0), (1, 0)] = some [(101, .iconst 1, 1), (102, .iadd, 1), (103, .goto 10, 3), (106, .aload_n 0, 1), (107, .getfield 16, 3), (110, .iload 5, 2), (112, .iaload, 1), (113, .iastore, 1), (114, .aload_n 0, 1), (115, .getfield 16, 3), (118, .iload 6, 2), (120, .aload_n 0, 1), (121, .getfield 16, 3), (124, .iload 5, 2)] := by decide +kernel
theorem dX10_doorsTo_101 : decode cX10_doorsTo 101 = .ok (.iconst 1, 1) := dz_at dqX10_doorsTo_p104 0 rfl
theorem dX10_doorsTo_102 : decode cX10_doorsTo 102 = .ok (.iadd, 1) := dz_at dqX10_doorsTo_p104 1 rfl
theorem dX10_doorsTo_103 : decode cX10_doorsTo 103 = .ok (.goto 10, 3) := dz_at dqX10_doorsTo_p104 2 rfl
theorem dX10_doorsTo_106 : decode cX10_doorsTo 106 = .ok (.aload_n 0, 1) := dz_at dqX10_doorsTo_p104 3 rfl
theorem dX10_doorsTo_107 : decode cX10_doorsTo 107 = .ok (.getfield 16, 3) := dz_at dqX10_doorsTo_p104 4 rfl
theorem dX10_doorsTo_110 : decode cX10_doorsTo 110 = .ok (.iload 5, 2) := dz_at dqX10_doorsTo_p104 5 rfl
theorem dX10_doorsTo_112 : decode cX10_doorsTo 112 = .ok (.iaload, 1) := dz_at dqX10_doorsTo_p104 6 rfl
theorem dX10_doorsTo_113 : decode cX10_doorsTo 113 = .ok (.iastore, 1) := dz_at dqX10_doorsTo_p104 7 rfl
theorem dX10_doorsTo_114 : decode cX10_doorsTo 114 = .ok (.aload_n 0, 1) := dz_at dqX10_doorsTo_p104 8 rfl
theorem dX10_doorsTo_115 : decode cX10_doorsTo 115 = .ok (.getfield 16, 3) := dz_at dqX10_doorsTo_p104 9 rfl
theorem dX10_doorsTo_118 : decode cX10_doorsTo 118 = .ok (.iload 6, 2) := dz_at dqX10_doorsTo_p104 10 rfl
theorem dX10_doorsTo_120 : decode cX10_doorsTo 120 = .ok (.aload_n 0, 1) := dz_at dqX10_doorsTo_p104 11 rfl
theorem dX10_doorsTo_121 : decode cX10_doorsTo 121 = .ok (.getfield 16, 3) := dz_at dqX10_doorsTo_p104 12 rfl
theorem dX10_doorsTo_124 : decode cX10_doorsTo 124 = .ok (.iload 5, 2) := dz_at dqX10_doorsTo_p104 13 rfl
set_option maxRecDepth 20000 in
theorem dqX10_doorsTo_p105 : dz_rn 126 (cX10_doorsTo.data.toList.drop 126) [(0, 10), (0, 9), (0, 11), (0, 4), (3, 0), (1, 0), (0, 10), (4, 4), (0, 4), (3, 0), (1, 0), (0, 10), (0, 9), (0, 11)] = some [(126, .iaload, 1), (127, .iconst 1, 1), (128, .iadd, 1), (129, .aload_n 0, 1), (130, .getfield 16, 3), (133, .iload 6, 2), (135, .iaload, 1), (136, .if_icmp .ge 15, 3), (139, .aload_n 0, 1), (140, .getfield 16, 3), (143, .iload 5, 2), (145, .iaload, 1), (146, .iconst 1, 1), (147, .iadd, 1)] := by decide +kernel
theorem dX10_doorsTo_126 : decode cX10_doorsTo 126 = .ok (.iaload, 1) := dz_at dqX10_doorsTo_p105 0 rfl
theorem dX10_doorsTo_127 : decode cX10_doorsTo 127 = .ok (.iconst 1, 1) := dz_at dqX10_doorsTo_p105 1 rfl
theorem dX10_doorsTo_128 : decode cX10_doorsTo 128 = .ok (.iadd, 1) := dz_at dqX10_doorsTo_p105 2 rfl
theorem dX10_doorsTo_129 : decode cX10_doorsTo 129 = .ok (.aload_n 0, 1) := dz_at dqX10_doorsTo_p105 3 rfl
theorem dX10_doorsTo_130 : decode cX10_doorsTo 130 = .ok (.getfield 16, 3) := dz_at dqX10_doorsTo_p105 4 rfl
theorem dX10_doorsTo_133 : decode cX10_doorsTo 133 = .ok (.iload 6, 2) := dz_at dqX10_doorsTo_p105 5 rfl
theorem dX10_doorsTo_135 : decode cX10_doorsTo 135 = .ok (.iaload, 1) := dz_at dqX10_doorsTo_p105 6 rfl
theorem dX10_doorsTo_136 : decode cX10_doorsTo 136 = .ok (.if_icmp .ge 15, 3) := dz_at dqX10_doorsTo_p105 7 rfl
theorem dX10_doorsTo_139 : decode cX10_doorsTo 139 = .ok (.aload_n 0, 1) := dz_at dqX10_doorsTo_p105 8 rfl
theorem dX10_doorsTo_140 : decode cX10_doorsTo 140 = .ok (.getfield 16, 3) := dz_at dqX10_doorsTo_p105 9 rfl
theorem dX10_doorsTo_143 : decode cX10_doorsTo 143 = .ok (.iload 5, 2) := dz_at dqX10_doorsTo_p105 10 rfl
theorem dX10_doorsTo_145 : decode cX10_doorsTo 145 = .ok (.iaload, 1) := dz_at dqX10_doorsTo_p105 11 rfl
theorem dX10_doorsTo_146 : decode cX10_doorsTo 146 = .ok (.iconst 1, 1) := dz_at dqX10_doorsTo_p105 12 rfl
theorem dX10_doorsTo_147 : decode cX10_doorsTo 147 = .ok (.iadd, 1) := dz_at dqX10_doorsTo_p105 13 rfl
set_option maxRecDepth 20000 in
theorem dqX10_doorsTo_p106 : dz_rn 148 (cX10_doorsTo.data.toList.drop 148) [(4, 0), (0, 4), (3, 0), (1, 0), (0, 10), (0, 22), (5, 0), (4, 0), (5, 0), (4, 0), (0, 4), (3, 0), (0, 2), (0, 10)] = some [(148, .goto 10, 3), (151, .aload_n 0, 1), (152, .getfield 16, 3), (155, .iload 6, 2), (157, .iaload, 1), (158, .iastore, 1), (159, .iinc 4 1, 3), (162, .goto (-120), 3), (165, .iinc 3 1, 3), (168, .goto (-135), 3), (171, .aload_n 0, 1), (172, .getfield 16, 3), (175, .iload_n 2, 1), (176, .iaload, 1)] := by decide +kernel
theorem dX10_doorsTo_148 : decode cX10_doorsTo 148 = .ok (.goto 10, 3) := dz_at dqX10_doorsTo_p106 0 rfl
theorem dX10_doorsTo_151 : decode cX10_doorsTo 151 = .ok (.aload_n 0, 1) := dz_at dqX10_doorsTo_p106 1 rfl
theorem dX10_doorsTo_152 : decode cX10_doorsTo 152 = .ok (.getfield 16, 3) := dz_at dqX10_doorsTo_p106 2 rfl
theorem dX10_doorsTo_155 : decode cX10_doorsTo 155 = .ok (.iload 6, 2) := dz_at dqX10_doorsTo_p106 3 rfl
theorem dX10_doorsTo_157 : decode cX10_doorsTo 157 = .ok (.iaload, 1) := dz_at dqX10_doorsTo_p106 4 rfl
theorem dX10_doorsTo_158 : decode cX10_doorsTo 158 = .ok (.iastore, 1) := dz_at dqX10_doorsTo_p106 5 rfl
theorem dX10_doorsTo_159 : decode cX10_doorsTo 159 = .ok (.iinc 4 1, 3) := dz_at dqX10_doorsTo_p106 6 rfl
theorem dX10_doorsTo_162 : decode cX10_doorsTo 162 = .ok (.goto (-120), 3) := dz_at dqX10_doorsTo_p106 7 rfl
theorem dX10_doorsTo_165 : decode cX10_doorsTo 165 = .ok (.iinc 3 1, 3) := dz_at dqX10_doorsTo_p106 8 rfl
theorem dX10_doorsTo_168 : decode cX10_doorsTo 168 = .ok (.goto (-135), 3) := dz_at dqX10_doorsTo_p106 9 rfl
theorem dX10_doorsTo_171 : decode cX10_doorsTo 171 = .ok (.aload_n 0, 1) := dz_at dqX10_doorsTo_p106 10 rfl
theorem dX10_doorsTo_172 : decode cX10_doorsTo 172 = .ok (.getfield 16, 3) := dz_at dqX10_doorsTo_p106 11 rfl
theorem dX10_doorsTo_175 : decode cX10_doorsTo 175 = .ok (.iload_n 2, 1) := dz_at dqX10_doorsTo_p106 12 rfl
theorem dX10_doorsTo_176 : decode cX10_doorsTo 176 = .ok (.iaload, 1) := dz_at dqX10_doorsTo_p106 13 rfl
set_option maxRecDepth 20000 in
theorem dqX10_doorsTo_p107 : dz_rn 177 (cX10_doorsTo.data.toList.drop 177) [(2, 0), (4, 3), (0, 13), (4, 0), (0, 4), (3, 0), (0, 2), (0, 10), (0, 12)] = some [(177, .bipush 100, 2), (179, .if_icmp .lt 7, 3), (182, .iconst (-1), 1), (183, .goto 9, 3), (186, .aload_n 0, 1), (187, .getfield 16, 3), (190, .iload_n 2, 1), (191, .iaload, 1), (192, .ireturn, 1)] := by decide +kernel
theorem dX10_doorsTo_177 : decode cX10_doorsTo 177 = .ok (.bipush 100, 2) := dz_at dqX10_doorsTo_p107 0 rfl
theorem dX10_doorsTo_179 : decode cX10_doorsTo 179 = .ok (.if_icmp .lt 7, 3) := dz_at dqX10_doorsTo_p107 1 rfl
theorem dX10_doorsTo_182 : decode cX10_doorsTo 182 = .ok (.iconst (-1), 1) := dz_at dqX10_doorsTo_p107 2 rfl
theorem dX10_doorsTo_183 : decode cX10_doorsTo 183 = .ok (.goto 9, 3) := dz_at dqX10_doorsTo_p107 3 rfl
theorem dX10_doorsTo_186 : decode cX10_doorsTo 186 = .ok (.aload_n 0, 1) := dz_at dqX10_doorsTo_p107 4 rfl
theorem dX10_doorsTo_187 : decode cX10_doorsTo 187 = .ok (.getfield 16, 3) := dz_at dqX10_doorsTo_p107 5 rfl
theorem dX10_doorsTo_190 : decode cX10_doorsTo 190 = .ok (.iload_n 2, 1) := dz_at dqX10_doorsTo_p107 6 rfl
theorem dX10_doorsTo_191 : decode cX10_doorsTo 191 = .ok (.iaload, 1) := dz_at dqX10_doorsTo_p107 7 rfl
theorem dX10_doorsTo_192 : decode cX10_doorsTo 192 = .ok (.ireturn, 1) := dz_at dqX10_doorsTo_p107 8 rfl
set_option maxRecDepth 20000 in
theorem ggX10_away_X10_isRoom : GoodIn wsX10_away wsX10_isRoom := goodIn_r _ [4, 5, 6, 3, 7] rfl (by decide +kernel)
set_option maxRecDepth 20000 in
theorem gX10_away_X10_isRoom : GoodIn wsX10_away (va_wsS RX10 100 yX10_isRoom wsX10_isRoom) := goodIn_app (goodIn_of _ (by decide +kernel)) ggX10_away_X10_isRoom
set_option maxRecDepth 20000 in
theorem ggX10_away_X10_doorsTo : GoodIn wsX10_away wsX10_doorsTo := goodIn_r _ [11, 12, 13, 14, 15, 16, 17, 18, 19, 20, 21, 22, 23, 24, 25, 26, 27, 28, 29, 30, 31, 32, 33, 34, 35, 36, 37, 38, 39, 40, 41, 42, 43, 44, 45, 46, 47, 48, 49, 50, 51, 52, 53, 54] rfl (by decide +kernel)
set_option maxRecDepth 20000 in
theorem gX10_away_X10_doorsTo : GoodIn wsX10_away (wsV RX10 108 RX10 yX10_doorsTo wsX10_doorsTo) := goodIn_app (goodIn_of _ (by decide +kernel)) ggX10_away_X10_doorsTo
set_option maxRecDepth 20000 in
theorem dqX10_away_p100 : dz_rn 0 (cX10_away.data.toList.drop 0) [(0, 1), (3, 2), (4, 7), (0, 2), (3, 2), (4, 7), (0, 4), (0, 1), (0, 2), (3, 1), (4, 0), (2, 0), (0, 12)] = some [(0, .iload_n 1, 1), (1, .invokestatic 100, 3), (4, .ifCond .eq 19, 3), (7, .iload_n 2, 1), (8, .invokestatic 100, 3), (11, .ifCond .eq 12, 3), (14, .aload_n 0, 1), (15, .iload_n 1, 1), (16, .iload_n 2, 1), (17, .invokevirtual 108, 3), (20, .goto 5, 3), (23, .bipush (-2), 2), (25, .ireturn, 1)] := by decide +kernel
theorem dX10_away_0 : decode cX10_away 0 = .ok (.iload_n 1, 1) := dz_at dqX10_away_p100 0 rfl
theorem dX10_away_1 : decode cX10_away 1 = .ok (.invokestatic 100, 3) := dz_at dqX10_away_p100 1 rfl
theorem dX10_away_4 : decode cX10_away 4 = .ok (.ifCond .eq 19, 3) := dz_at dqX10_away_p100 2 rfl
theorem dX10_away_7 : decode cX10_away 7 = .ok (.iload_n 2, 1) := dz_at dqX10_away_p100 3 rfl
theorem dX10_away_8 : decode cX10_away 8 = .ok (.invokestatic 100, 3) := dz_at dqX10_away_p100 4 rfl
theorem dX10_away_11 : decode cX10_away 11 = .ok (.ifCond .eq 12, 3) := dz_at dqX10_away_p100 5 rfl
theorem dX10_away_14 : decode cX10_away 14 = .ok (.aload_n 0, 1) := dz_at dqX10_away_p100 6 rfl
theorem dX10_away_15 : decode cX10_away 15 = .ok (.iload_n 1, 1) := dz_at dqX10_away_p100 7 rfl
theorem dX10_away_16 : decode cX10_away 16 = .ok (.iload_n 2, 1) := dz_at dqX10_away_p100 8 rfl
theorem dX10_away_17 : decode cX10_away 17 = .ok (.invokevirtual 108, 3) := dz_at dqX10_away_p100 9 rfl
theorem dX10_away_20 : decode cX10_away 20 = .ok (.goto 5, 3) := dz_at dqX10_away_p100 10 rfl
theorem dX10_away_23 : decode cX10_away 23 = .ok (.bipush (-2), 2) := dz_at dqX10_away_p100 11 rfl
theorem dX10_away_25 : decode cX10_away 25 = .ok (.ireturn, 1) := dz_at dqX10_away_p100 12 rfl
set_option maxRecDepth 20000 in
theorem ggX10_marks_X10_isThing : GoodIn wsX10_marks wsX10_isThing := goodIn_r _ [5, 6, 7, 4, 8] rfl (by decide +kernel)
set_option maxRecDepth 20000 in
theorem gX10_marks_X10_isThing : GoodIn wsX10_marks (va_wsS RX10 112 yX10_isThing wsX10_isThing) := goodIn_app (goodIn_of _ (by decide +kernel)) ggX10_marks_X10_isThing
set_option maxRecDepth 20000 in
theorem ggX10_marks_X10_in : GoodIn wsX10_marks wsX10_in := goodIn_r _ [8] rfl (by decide +kernel)
set_option maxRecDepth 20000 in
theorem gX10_marks_X10_in : GoodIn wsX10_marks (va_wsS RX10 93 yX10_in wsX10_in) := goodIn_app (goodIn_of _ (by decide +kernel)) ggX10_marks_X10_in
set_option maxRecDepth 20000 in
theorem dqX10_marks_p100 : dz_rn 0 (cX10_marks.data.toList.drop 0) [(0, 1), (3, 2), (4, 8), (2, 0), (0, 12), (0, 2), (0, 8), (4, 13), (3, 2), (4, 8), (2, 0), (0, 12), (0, 4), (3, 0)] = some [(0, .iload_n 1, 1), (1, .invokestatic 112, 3), (4, .ifCond .ne 6, 3), (7, .bipush (-2), 2), (9, .ireturn, 1), (10, .iload_n 2, 1), (11, .iconst 0, 1), (12, .sipush 255, 3), (15, .invokestatic 93, 3), (18, .ifCond .ne 6, 3), (21, .bipush (-3), 2), (23, .ireturn, 1), (24, .aload_n 0, 1), (25, .getfield 19, 3)] := by decide +kernel
theorem dX10_marks_0 : decode cX10_marks 0 = .ok (.iload_n 1, 1) := dz_at dqX10_marks_p100 0 rfl
theorem dX10_marks_1 : decode cX10_marks 1 = .ok (.invokestatic 112, 3) := dz_at dqX10_marks_p100 1 rfl
theorem dX10_marks_4 : decode cX10_marks 4 = .ok (.ifCond .ne 6, 3) := dz_at dqX10_marks_p100 2 rfl
theorem dX10_marks_7 : decode cX10_marks 7 = .ok (.bipush (-2), 2) := dz_at dqX10_marks_p100 3 rfl
theorem dX10_marks_9 : decode cX10_marks 9 = .ok (.ireturn, 1) := dz_at dqX10_marks_p100 4 rfl
theorem dX10_marks_10 : decode cX10_marks 10 = .ok (.iload_n 2, 1) := dz_at dqX10_marks_p100 5 rfl
theorem dX10_marks_11 : decode cX10_marks 11 = .ok (.iconst 0, 1) := dz_at dqX10_marks_p100 6 rfl
theorem dX10_marks_12 : decode cX10_marks 12 = .ok (.sipush 255, 3) := dz_at dqX10_marks_p100 7 rfl
theorem dX10_marks_15 : decode cX10_marks 15 = .ok (.invokestatic 93, 3) := dz_at dqX10_marks_p100 8 rfl
theorem dX10_marks_18 : decode cX10_marks 18 = .ok (.ifCond .ne 6, 3) := dz_at dqX10_marks_p100 9 rfl
theorem dX10_marks_21 : decode cX10_marks 21 = .ok (.bipush (-3), 2) := dz_at dqX10_marks_p100 10 rfl
theorem dX10_marks_23 : decode cX10_marks 23 = .ok (.ireturn, 1) := dz_at dqX10_marks_p100 11 rfl
theorem dX10_marks_24 : decode cX10_marks 24 = .ok (.aload_n 0, 1) := dz_at dqX10_marks_p100 12 rfl
theorem dX10_marks_25 : decode cX10_marks 25 = .ok (.getfield 19, 3) := dz_at dqX10_marks_p100 13 rfl
set_option maxRecDepth 20000 in
theorem dqX10_marks_p101 : dz_rn 28 (cX10_marks.data.toList.drop 28) [(0, 1), (0, 10), (0, 21), (0, 4), (3, 0), (0, 1), (0, 2), (0, 22), (0, 3), (0, 12)] = some [(28, .iload_n 1, 1), (29, .iaload, 1), (30, .istore_n 3, 1), (31, .aload_n 0, 1), (32, .getfield 19, 3), (35, .iload_n 1, 1), (36, .iload_n 2, 1), (37, .iastore, 1), (38, .iload_n 3, 1), (39, .ireturn, 1)] := by decide +kernel
theorem dX10_marks_28 : decode cX10_marks 28 = .ok (.iload_n 1, 1) := dz_at dqX10_marks_p101 0 rfl
theorem dX10_marks_29 : decode cX10_marks 29 = .ok (.iaload, 1) := dz_at dqX10_marks_p101 1 rfl
theorem dX10_marks_30 : decode cX10_marks 30 = .ok (.istore_n 3, 1) := dz_at dqX10_marks_p101 2 rfl
theorem dX10_marks_31 : decode cX10_marks 31 = .ok (.aload_n 0, 1) := dz_at dqX10_marks_p101 3 rfl
theorem dX10_marks_32 : decode cX10_marks 32 = .ok (.getfield 19, 3) := dz_at dqX10_marks_p101 4 rfl
theorem dX10_marks_35 : decode cX10_marks 35 = .ok (.iload_n 1, 1) := dz_at dqX10_marks_p101 5 rfl
theorem dX10_marks_36 : decode cX10_marks 36 = .ok (.iload_n 2, 1) := dz_at dqX10_marks_p101 6 rfl
theorem dX10_marks_37 : decode cX10_marks 37 = .ok (.iastore, 1) := dz_at dqX10_marks_p101 7 rfl
theorem dX10_marks_38 : decode cX10_marks 38 = .ok (.iload_n 3, 1) := dz_at dqX10_marks_p101 8 rfl
theorem dX10_marks_39 : decode cX10_marks 39 = .ok (.ireturn, 1) := dz_at dqX10_marks_p101 9 rfl
set_option maxRecDepth 20000 in
theorem ggX10_like_X10_isThing : GoodIn wsX10_like wsX10_isThing := goodIn_r _ [4, 5, 6, 3, 7] rfl (by decide +kernel)
set_option maxRecDepth 20000 in
theorem gX10_like_X10_isThing : GoodIn wsX10_like (va_wsS RX10 112 yX10_isThing wsX10_isThing) := goodIn_app (goodIn_of _ (by decide +kernel)) ggX10_like_X10_isThing
set_option maxRecDepth 20000 in
theorem ggX10_like_X10_likeness : GoodIn wsX10_like wsX10_likeness := goodIn_r _ [11, 12, 13, 14, 15, 16, 17, 18, 19, 20, 21, 22, 23, 24, 25, 26, 27, 28, 29, 30, 31, 32, 33, 34, 35, 36, 37, 38, 39, 40, 41, 42, 43, 44, 45, 46, 47, 48, 49, 50, 51] rfl (by decide +kernel)
set_option maxRecDepth 20000 in
theorem gX10_like_X10_likeness : GoodIn wsX10_like (wsV RX10 115 RX10 yX10_likeness wsX10_likeness) := goodIn_app (goodIn_of _ (by decide +kernel)) ggX10_like_X10_likeness
set_option maxRecDepth 20000 in
theorem dqX10_like_p100 : dz_rn 0 (cX10_like.data.toList.drop 0) [(0, 1), (3, 2), (4, 7), (0, 2), (3, 2), (4, 7), (0, 4), (0, 1), (0, 2), (3, 1), (4, 0), (2, 0), (0, 12)] = some [(0, .iload_n 1, 1), (1, .invokestatic 112, 3), (4, .ifCond .eq 19, 3), (7, .iload_n 2, 1), (8, .invokestatic 112, 3), (11, .ifCond .eq 12, 3), (14, .aload_n 0, 1), (15, .iload_n 1, 1), (16, .iload_n 2, 1), (17, .invokevirtual 115, 3), (20, .goto 5, 3), (23, .bipush (-2), 2), (25, .ireturn, 1)] := by decide +kernel
theorem dX10_like_0 : decode cX10_like 0 = .ok (.iload_n 1, 1) := dz_at dqX10_like_p100 0 rfl
theorem dX10_like_1 : decode cX10_like 1 = .ok (.invokestatic 112, 3) := dz_at dqX10_like_p100 1 rfl
theorem dX10_like_4 : decode cX10_like 4 = .ok (.ifCond .eq 19, 3) := dz_at dqX10_like_p100 2 rfl
theorem dX10_like_7 : decode cX10_like 7 = .ok (.iload_n 2, 1) := dz_at dqX10_like_p100 3 rfl
theorem dX10_like_8 : decode cX10_like 8 = .ok (.invokestatic 112, 3) := dz_at dqX10_like_p100 4 rfl
theorem dX10_like_11 : decode cX10_like 11 = .ok (.ifCond .eq 12, 3) := dz_at dqX10_like_p100 5 rfl
theorem dX10_like_14 : decode cX10_like 14 = .ok (.aload_n 0, 1) := dz_at dqX10_like_p100 6 rfl
theorem dX10_like_15 : decode cX10_like 15 = .ok (.iload_n 1, 1) := dz_at dqX10_like_p100 7 rfl
theorem dX10_like_16 : decode cX10_like 16 = .ok (.iload_n 2, 1) := dz_at dqX10_like_p100 8 rfl
theorem dX10_like_17 : decode cX10_like 17 = .ok (.invokevirtual 115, 3) := dz_at dqX10_like_p100 9 rfl
theorem dX10_like_20 : decode cX10_like 20 = .ok (.goto 5, 3) := dz_at dqX10_like_p100 10 rfl
theorem dX10_like_23 : decode cX10_like 23 = .ok (.bipush (-2), 2) := dz_at dqX10_like_p100 11 rfl
theorem dX10_like_25 : decode cX10_like 25 = .ok (.ireturn, 1) := dz_at dqX10_like_p100 12 rfl
set_option maxRecDepth 20000 in
theorem ggX10_set_X10_in : GoodIn wsX10_set wsX10_in := goodIn_r _ [6] rfl (by decide +kernel)
set_option maxRecDepth 20000 in
theorem gX10_set_X10_in : GoodIn wsX10_set (va_wsS RX10 93 yX10_in wsX10_in) := goodIn_app (goodIn_of _ (by decide +kernel)) ggX10_set_X10_in
set_option maxRecDepth 20000 in
theorem dqX10_set_p100 : dz_rn 0 (cX10_set.data.toList.drop 0) [(0, 1), (4, 8), (0, 2), (0, 9), (2, 0), (3, 2), (4, 7), (0, 4), (3, 0), (0, 21), (0, 4), (0, 2), (3, 3), (0, 3)] = some [(0, .iload_n 1, 1), (1, .ifCond .ne 25, 3), (4, .iload_n 2, 1), (5, .iconst 1, 1), (6, .bipush 8, 2), (8, .invokestatic 93, 3), (11, .ifCond .eq 15, 3), (14, .aload_n 0, 1), (15, .getfield 22, 3), (18, .istore_n 3, 1), (19, .aload_n 0, 1), (20, .iload_n 2, 1), (21, .putfield 22, 3), (24, .iload_n 3, 1)] := by decide +kernel
theorem dX10_set_0 : decode cX10_set 0 = .ok (.iload_n 1, 1) := dz_at dqX10_set_p100 0 rfl
theorem dX10_set_1 : decode cX10_set 1 = .ok (.ifCond .ne 25, 3) := dz_at dqX10_set_p100 1 rfl
theorem dX10_set_4 : decode cX10_set 4 = .ok (.iload_n 2, 1) := dz_at dqX10_set_p100 2 rfl
theorem dX10_set_5 : decode cX10_set 5 = .ok (.iconst 1, 1) := dz_at dqX10_set_p100 3 rfl
theorem dX10_set_6 : decode cX10_set 6 = .ok (.bipush 8, 2) := dz_at dqX10_set_p100 4 rfl
theorem dX10_set_8 : decode cX10_set 8 = .ok (.invokestatic 93, 3) := dz_at dqX10_set_p100 5 rfl
theorem dX10_set_11 : decode cX10_set 11 = .ok (.ifCond .eq 15, 3) := dz_at dqX10_set_p100 6 rfl
theorem dX10_set_14 : decode cX10_set 14 = .ok (.aload_n 0, 1) := dz_at dqX10_set_p100 7 rfl
theorem dX10_set_15 : decode cX10_set 15 = .ok (.getfield 22, 3) := dz_at dqX10_set_p100 8 rfl
theorem dX10_set_18 : decode cX10_set 18 = .ok (.istore_n 3, 1) := dz_at dqX10_set_p100 9 rfl
theorem dX10_set_19 : decode cX10_set 19 = .ok (.aload_n 0, 1) := dz_at dqX10_set_p100 10 rfl
theorem dX10_set_20 : decode cX10_set 20 = .ok (.iload_n 2, 1) := dz_at dqX10_set_p100 11 rfl
theorem dX10_set_21 : decode cX10_set 21 = .ok (.putfield 22, 3) := dz_at dqX10_set_p100 12 rfl
theorem dX10_set_24 : decode cX10_set 24 = .ok (.iload_n 3, 1) := dz_at dqX10_set_p100 13 rfl
set_option maxRecDepth 20000 in
theorem dqX10_set_p101 : dz_rn 25 (cX10_set.data.toList.drop 25) [(0, 12), (0, 1), (0, 9), (4, 2), (0, 2), (0, 8), (2, 0), (3, 2), (4, 7), (0, 4), (3, 0), (0, 21), (0, 4), (0, 2)] = some [(25, .ireturn, 1), (26, .iload_n 1, 1), (27, .iconst 1, 1), (28, .if_icmp .ne 25, 3), (31, .iload_n 2, 1), (32, .iconst 0, 1), (33, .bipush 100, 2), (35, .invokestatic 93, 3), (38, .ifCond .eq 15, 3), (41, .aload_n 0, 1), (42, .getfield 26, 3), (45, .istore_n 3, 1), (46, .aload_n 0, 1), (47, .iload_n 2, 1)] := by decide +kernel
theorem dX10_set_25 : decode cX10_set 25 = .ok (.ireturn, 1) := dz_at dqX10_set_p101 0 rfl
theorem dX10_set_26 : decode cX10_set 26 = .ok (.iload_n 1, 1) := dz_at dqX10_set_p101 1 rfl
theorem dX10_set_27 : decode cX10_set 27 = .ok (.iconst 1, 1) := dz_at dqX10_set_p101 2 rfl
theorem dX10_set_28 : decode cX10_set 28 = .ok (.if_icmp .ne 25, 3) := dz_at dqX10_set_p101 3 rfl
theorem dX10_set_31 : decode cX10_set 31 = .ok (.iload_n 2, 1) := dz_at dqX10_set_p101 4 rfl
theorem dX10_set_32 : decode cX10_set 32 = .ok (.iconst 0, 1) := dz_at dqX10_set_p101 5 rfl
theorem dX10_set_33 : decode cX10_set 33 = .ok (.bipush 100, 2) := dz_at dqX10_set_p101 6 rfl
theorem dX10_set_35 : decode cX10_set 35 = .ok (.invokestatic 93, 3) := dz_at dqX10_set_p101 7 rfl
theorem dX10_set_38 : decode cX10_set 38 = .ok (.ifCond .eq 15, 3) := dz_at dqX10_set_p101 8 rfl
theorem dX10_set_41 : decode cX10_set 41 = .ok (.aload_n 0, 1) := dz_at dqX10_set_p101 9 rfl
theorem dX10_set_42 : decode cX10_set 42 = .ok (.getfield 26, 3) := dz_at dqX10_set_p101 10 rfl
theorem dX10_set_45 : decode cX10_set 45 = .ok (.istore_n 3, 1) := dz_at dqX10_set_p101 11 rfl
theorem dX10_set_46 : decode cX10_set 46 = .ok (.aload_n 0, 1) := dz_at dqX10_set_p101 12 rfl
theorem dX10_set_47 : decode cX10_set 47 = .ok (.iload_n 2, 1) := dz_at dqX10_set_p101 13 rfl
set_option maxRecDepth 20000 in
theorem dqX10_set_p102 : dz_rn 48 (cX10_set.data.toList.drop 48) [(3, 3), (0, 3), (0, 12), (2, 0), (0, 12)] = some [(48, .putfield 26, 3), (51, .iload_n 3, 1), (52, .ireturn, 1), (53, .bipush (-3), 2), (55, .ireturn, 1)] := by decide +kernel
theorem dX10_set_48 : decode cX10_set 48 = .ok (.putfield 26, 3) := dz_at dqX10_set_p102 0 rfl
theorem dX10_set_51 : decode cX10_set 51 = .ok (.iload_n 3, 1) := dz_at dqX10_set_p102 1 rfl
theorem dX10_set_52 : decode cX10_set 52 = .ok (.ireturn, 1) := dz_at dqX10_set_p102 2 rfl
theorem dX10_set_53 : decode cX10_set 53 = .ok (.bipush (-3), 2) := dz_at dqX10_set_p102 3 rfl
theorem dX10_set_55 : decode cX10_set 55 = .ok (.ireturn, 1) := dz_at dqX10_set_p102 4 rfl
set_option maxRecDepth 20000 in
theorem ggX10_fall_X10_in : GoodIn wsX10_fall wsX10_in := goodIn_r _ [5] rfl (by decide +kernel)
set_option maxRecDepth 20000 in
theorem gX10_fall_X10_in : GoodIn wsX10_fall (va_wsS RX10 93 yX10_in wsX10_in) := goodIn_app (goodIn_of _ (by decide +kernel)) ggX10_fall_X10_in
set_option maxRecDepth 20000 in
theorem dqX10_fall_p100 : dz_rn 0 (cX10_fall.data.toList.drop 0) [(0, 1), (0, 8), (2, 0), (3, 2), (4, 7), (0, 2), (0, 8), (2, 0), (3, 2), (4, 8), (2, 0), (0, 12), (0, 4), (3, 0)] = some [(0, .iload_n 1, 1), (1, .iconst 0, 1), (2, .bipush 10, 2), (4, .invokestatic 93, 3), (7, .ifCond .eq 13, 3), (10, .iload_n 2, 1), (11, .iconst 0, 1), (12, .bipush 30, 2), (14, .invokestatic 93, 3), (17, .ifCond .ne 6, 3), (20, .bipush (-3), 2), (22, .ireturn, 1), (23, .aload_n 0, 1), (24, .getfield 29, 3)] := by decide +kernel
theorem dX10_fall_0 : decode cX10_fall 0 = .ok (.iload_n 1, 1) := dz_at dqX10_fall_p100 0 rfl
theorem dX10_fall_1 : decode cX10_fall 1 = .ok (.iconst 0, 1) := dz_at dqX10_fall_p100 1 rfl
theorem dX10_fall_2 : decode cX10_fall 2 = .ok (.bipush 10, 2) := dz_at dqX10_fall_p100 2 rfl
theorem dX10_fall_4 : decode cX10_fall 4 = .ok (.invokestatic 93, 3) := dz_at dqX10_fall_p100 3 rfl
theorem dX10_fall_7 : decode cX10_fall 7 = .ok (.ifCond .eq 13, 3) := dz_at dqX10_fall_p100 4 rfl
theorem dX10_fall_10 : decode cX10_fall 10 = .ok (.iload_n 2, 1) := dz_at dqX10_fall_p100 5 rfl
theorem dX10_fall_11 : decode cX10_fall 11 = .ok (.iconst 0, 1) := dz_at dqX10_fall_p100 6 rfl
theorem dX10_fall_12 : decode cX10_fall 12 = .ok (.bipush 30, 2) := dz_at dqX10_fall_p100 7 rfl
theorem dX10_fall_14 : decode cX10_fall 14 = .ok (.invokestatic 93, 3) := dz_at dqX10_fall_p100 8 rfl
theorem dX10_fall_17 : decode cX10_fall 17 = .ok (.ifCond .ne 6, 3) := dz_at dqX10_fall_p100 9 rfl
theorem dX10_fall_20 : decode cX10_fall 20 = .ok (.bipush (-3), 2) := dz_at dqX10_fall_p100 10 rfl
theorem dX10_fall_22 : decode cX10_fall 22 = .ok (.ireturn, 1) := dz_at dqX10_fall_p100 11 rfl
theorem dX10_fall_23 : decode cX10_fall 23 = .ok (.aload_n 0, 1) := dz_at dqX10_fall_p100 12 rfl
theorem dX10_fall_24 : decode cX10_fall 24 = .ok (.getfield 29, 3) := dz_at dqX10_fall_p100 13 rfl
set_option maxRecDepth 20000 in
theorem dqX10_fall_p101 : dz_rn 27 (cX10_fall.data.toList.drop 27) [(0, 1), (0, 10), (0, 21), (0, 4), (3, 0), (0, 1), (0, 2), (0, 22), (0, 3), (0, 12)] = some [(27, .iload_n 1, 1), (28, .iaload, 1), (29, .istore_n 3, 1), (30, .aload_n 0, 1), (31, .getfield 29, 3), (34, .iload_n 1, 1), (35, .iload_n 2, 1), (36, .iastore, 1), (37, .iload_n 3, 1), (38, .ireturn, 1)] := by decide +kernel
theorem dX10_fall_27 : decode cX10_fall 27 = .ok (.iload_n 1, 1) := dz_at dqX10_fall_p101 0 rfl
theorem dX10_fall_28 : decode cX10_fall 28 = .ok (.iaload, 1) := dz_at dqX10_fall_p101 1 rfl
theorem dX10_fall_29 : decode cX10_fall 29 = .ok (.istore_n 3, 1) := dz_at dqX10_fall_p101 2 rfl
theorem dX10_fall_30 : decode cX10_fall 30 = .ok (.aload_n 0, 1) := dz_at dqX10_fall_p101 3 rfl
theorem dX10_fall_31 : decode cX10_fall 31 = .ok (.getfield 29, 3) := dz_at dqX10_fall_p101 4 rfl
theorem dX10_fall_34 : decode cX10_fall 34 = .ok (.iload_n 1, 1) := dz_at dqX10_fall_p101 5 rfl
theorem dX10_fall_35 : decode cX10_fall 35 = .ok (.iload_n 2, 1) := dz_at dqX10_fall_p101 6 rfl
theorem dX10_fall_36 : decode cX10_fall 36 = .ok (.iastore, 1) := dz_at dqX10_fall_p101 7 rfl
theorem dX10_fall_37 : decode cX10_fall 37 = .ok (.iload_n 3, 1) := dz_at dqX10_fall_p101 8 rfl
theorem dX10_fall_38 : decode cX10_fall 38 = .ok (.ireturn, 1) := dz_at dqX10_fall_p101 9 rfl
set_option maxRecDepth 20000 in
theorem dqX10_cornerOf_p100 : dz_rn 0 (cX10_cornerOf.data.toList.drop 0) [(0, 13), (0, 20), (0, 8), (0, 21), (0, 3), (2, 0), (4, 4), (0, 4), (3, 0), (0, 3), (0, 10), (0, 1), (4, 2), (0, 3)] = some [(0, .iconst (-1), 1), (1, .istore_n 2, 1), (2, .iconst 0, 1), (3, .istore_n 3, 1), (4, .iload_n 3, 1), (5, .bipush 48, 2), (7, .if_icmp .ge 25, 3), (10, .aload_n 0, 1), (11, .getfield 32, 3), (14, .iload_n 3, 1), (15, .iaload, 1), (16, .iload_n 1, 1), (17, .if_icmp .ne 7, 3), (20, .iload_n 3, 1)] := by decide +kernel
theorem dX10_cornerOf_0 : decode cX10_cornerOf 0 = .ok (.iconst (-1), 1) := dz_at dqX10_cornerOf_p100 0 rfl
theorem dX10_cornerOf_1 : decode cX10_cornerOf 1 = .ok (.istore_n 2, 1) := dz_at dqX10_cornerOf_p100 1 rfl
theorem dX10_cornerOf_2 : decode cX10_cornerOf 2 = .ok (.iconst 0, 1) := dz_at dqX10_cornerOf_p100 2 rfl
theorem dX10_cornerOf_3 : decode cX10_cornerOf 3 = .ok (.istore_n 3, 1) := dz_at dqX10_cornerOf_p100 3 rfl
theorem dX10_cornerOf_4 : decode cX10_cornerOf 4 = .ok (.iload_n 3, 1) := dz_at dqX10_cornerOf_p100 4 rfl
theorem dX10_cornerOf_5 : decode cX10_cornerOf 5 = .ok (.bipush 48, 2) := dz_at dqX10_cornerOf_p100 5 rfl
theorem dX10_cornerOf_7 : decode cX10_cornerOf 7 = .ok (.if_icmp .ge 25, 3) := dz_at dqX10_cornerOf_p100 6 rfl
theorem dX10_cornerOf_10 : decode cX10_cornerOf 10 = .ok (.aload_n 0, 1) := dz_at dqX10_cornerOf_p100 7 rfl
theorem dX10_cornerOf_11 : decode cX10_cornerOf 11 = .ok (.getfield 32, 3) := dz_at dqX10_cornerOf_p100 8 rfl
theorem dX10_cornerOf_14 : decode cX10_cornerOf 14 = .ok (.iload_n 3, 1) := dz_at dqX10_cornerOf_p100 9 rfl
theorem dX10_cornerOf_15 : decode cX10_cornerOf 15 = .ok (.iaload, 1) := dz_at dqX10_cornerOf_p100 10 rfl
theorem dX10_cornerOf_16 : decode cX10_cornerOf 16 = .ok (.iload_n 1, 1) := dz_at dqX10_cornerOf_p100 11 rfl
theorem dX10_cornerOf_17 : decode cX10_cornerOf 17 = .ok (.if_icmp .ne 7, 3) := dz_at dqX10_cornerOf_p100 12 rfl
theorem dX10_cornerOf_20 : decode cX10_cornerOf 20 = .ok (.iload_n 3, 1) := dz_at dqX10_cornerOf_p100 13 rfl
set_option maxRecDepth 20000 in
theorem dqX10_cornerOf_p101 : dz_rn 21 (cX10_cornerOf.data.toList.drop 21) [(4, 0), (0, 2), (0, 20), (5, 0), (4, 0), (0, 2), (0, 12)] = some [(21, .goto 4, 3), (24, .iload_n 2, 1), (25, .istore_n 2, 1), (26, .iinc 3 1, 3), (29, .goto (-25), 3), (32, .iload_n 2, 1), (33, .ireturn, 1)] := by decide +kernel
theorem dX10_cornerOf_21 : decode cX10_cornerOf 21 = .ok (.goto 4, 3) := dz_at dqX10_cornerOf_p101 0 rfl
theorem dX10_cornerOf_24 : decode cX10_cornerOf 24 = .ok (.iload_n 2, 1) := dz_at dqX10_cornerOf_p101 1 rfl
theorem dX10_cornerOf_25 : decode cX10_cornerOf 25 = .ok (.istore_n 2, 1) := dz_at dqX10_cornerOf_p101 2 rfl
theorem dX10_cornerOf_26 : decode cX10_cornerOf 26 = .ok (.iinc 3 1, 3) := dz_at dqX10_cornerOf_p101 3 rfl
theorem dX10_cornerOf_29 : decode cX10_cornerOf 29 = .ok (.goto (-25), 3) := dz_at dqX10_cornerOf_p101 4 rfl
theorem dX10_cornerOf_32 : decode cX10_cornerOf 32 = .ok (.iload_n 2, 1) := dz_at dqX10_cornerOf_p101 5 rfl
theorem dX10_cornerOf_33 : decode cX10_cornerOf 33 = .ok (.ireturn, 1) := dz_at dqX10_cornerOf_p101 6 rfl
set_option maxRecDepth 20000 in
theorem ggX10_put_X10_isThing : GoodIn wsX10_put wsX10_isThing := goodIn_r _ [10, 11, 12, 9, 13] rfl (by decide +kernel)
set_option maxRecDepth 20000 in
theorem gX10_put_X10_isThing : GoodIn wsX10_put (va_wsS RX10 112 yX10_isThing wsX10_isThing) := goodIn_app (goodIn_of _ (by decide +kernel)) ggX10_put_X10_isThing
set_option maxRecDepth 20000 in
theorem ggX10_put_X10_isCorner : GoodIn wsX10_put wsX10_isCorner := goodIn_r _ [16, 11, 12, 9, 13] rfl (by decide +kernel)
set_option maxRecDepth 20000 in
theorem gX10_put_X10_isCorner : GoodIn wsX10_put (va_wsS RX10 118 yX10_isCorner wsX10_isCorner) := goodIn_app (goodIn_of _ (by decide +kernel)) ggX10_put_X10_isCorner
set_option maxRecDepth 20000 in
theorem ggX10_put_X10_cornerOf : GoodIn wsX10_put wsX10_cornerOf := goodIn_r _ [20, 1, 21, 22, 23, 24, 25, 26, 27, 28, 29, 30, 31, 32, 33, 34, 35, 36, 37, 38, 39, 40, 41, 42, 43, 44, 45, 46, 47, 48, 49, 50, 51, 52, 53, 54, 55, 56, 57, 58, 59] rfl (by decide +kernel)
set_option maxRecDepth 20000 in
theorem gX10_put_X10_cornerOf : GoodIn wsX10_put (wsV RX10 121 RX10 yX10_cornerOf wsX10_cornerOf) := goodIn_app (goodIn_of _ (by decide +kernel)) ggX10_put_X10_cornerOf
set_option maxRecDepth 20000 in
theorem dqX10_put_p100 : dz_rn 0 (cX10_put.data.toList.drop 0) [(0, 1), (3, 2), (4, 7), (0, 2), (3, 2), (4, 8), (2, 0), (0, 12), (0, 4), (0, 1), (3, 1), (0, 13), (4, 1), (2, 0)] = some [(0, .iload_n 1, 1), (1, .invokestatic 112, 3), (4, .ifCond .eq 10, 3), (7, .iload_n 2, 1), (8, .invokestatic 118, 3), (11, .ifCond .ne 6, 3), (14, .bipush (-2), 2), (16, .ireturn, 1), (17, .aload_n 0, 1), (18, .iload_n 1, 1), (19, .invokevirtual 121, 3), (22, .iconst (-1), 1), (23, .if_icmp .eq 6, 3), (26, .bipush (-4), 2)] := by decide +kernel
theorem dX10_put_0 : decode cX10_put 0 = .ok (.iload_n 1, 1) := dz_at dqX10_put_p100 0 rfl
theorem dX10_put_1 : decode cX10_put 1 = .ok (.invokestatic 112, 3) := dz_at dqX10_put_p100 1 rfl
theorem dX10_put_4 : decode cX10_put 4 = .ok (.ifCond .eq 10, 3) := dz_at dqX10_put_p100 2 rfl
theorem dX10_put_7 : decode cX10_put 7 = .ok (.iload_n 2, 1) := dz_at dqX10_put_p100 3 rfl
theorem dX10_put_8 : decode cX10_put 8 = .ok (.invokestatic 118, 3) := dz_at dqX10_put_p100 4 rfl
theorem dX10_put_11 : decode cX10_put 11 = .ok (.ifCond .ne 6, 3) := dz_at dqX10_put_p100 5 rfl
theorem dX10_put_14 : decode cX10_put 14 = .ok (.bipush (-2), 2) := dz_at dqX10_put_p100 6 rfl
theorem dX10_put_16 : decode cX10_put 16 = .ok (.ireturn, 1) := dz_at dqX10_put_p100 7 rfl
theorem dX10_put_17 : decode cX10_put 17 = .ok (.aload_n 0, 1) := dz_at dqX10_put_p100 8 rfl
theorem dX10_put_18 : decode cX10_put 18 = .ok (.iload_n 1, 1) := dz_at dqX10_put_p100 9 rfl
theorem dX10_put_19 : decode cX10_put 19 = .ok (.invokevirtual 121, 3) := dz_at dqX10_put_p100 10 rfl
theorem dX10_put_22 : decode cX10_put 22 = .ok (.iconst (-1), 1) := dz_at dqX10_put_p100 11 rfl
theorem dX10_put_23 : decode cX10_put 23 = .ok (.if_icmp .eq 6, 3) := dz_at dqX10_put_p100 12 rfl
theorem dX10_put_26 : decode cX10_put 26 = .ok (.bipush (-4), 2) := dz_at dqX10_put_p100 13 rfl
set_option maxRecDepth 20000 in
theorem dqX10_put_p101 : dz_rn 28 (cX10_put.data.toList.drop 28) [(0, 12), (0, 4), (3, 0), (0, 2), (0, 10), (0, 21), (0, 3), (0, 13), (4, 1), (0, 4), (3, 0), (0, 2), (0, 10), (4, 12)] = some [(28, .ireturn, 1), (29, .aload_n 0, 1), (30, .getfield 32, 3), (33, .iload_n 2, 1), (34, .iaload, 1), (35, .istore_n 3, 1), (36, .iload_n 3, 1), (37, .iconst (-1), 1), (38, .if_icmp .eq 16, 3), (41, .aload_n 0, 1), (42, .getfield 35, 3), (45, .iload_n 2, 1), (46, .iaload, 1), (47, .ifCond .le 7, 3)] := by decide +kernel
theorem dX10_put_28 : decode cX10_put 28 = .ok (.ireturn, 1) := dz_at dqX10_put_p101 0 rfl
theorem dX10_put_29 : decode cX10_put 29 = .ok (.aload_n 0, 1) := dz_at dqX10_put_p101 1 rfl
theorem dX10_put_30 : decode cX10_put 30 = .ok (.getfield 32, 3) := dz_at dqX10_put_p101 2 rfl
theorem dX10_put_33 : decode cX10_put 33 = .ok (.iload_n 2, 1) := dz_at dqX10_put_p101 3 rfl
theorem dX10_put_34 : decode cX10_put 34 = .ok (.iaload, 1) := dz_at dqX10_put_p101 4 rfl
theorem dX10_put_35 : decode cX10_put 35 = .ok (.istore_n 3, 1) := dz_at dqX10_put_p101 5 rfl
theorem dX10_put_36 : decode cX10_put 36 = .ok (.iload_n 3, 1) := dz_at dqX10_put_p101 6 rfl
theorem dX10_put_37 : decode cX10_put 37 = .ok (.iconst (-1), 1) := dz_at dqX10_put_p101 7 rfl
theorem dX10_put_38 : decode cX10_put 38 = .ok (.if_icmp .eq 16, 3) := dz_at dqX10_put_p101 8 rfl
theorem dX10_put_41 : decode cX10_put 41 = .ok (.aload_n 0, 1) := dz_at dqX10_put_p101 9 rfl
theorem dX10_put_42 : decode cX10_put 42 = .ok (.getfield 35, 3) := dz_at dqX10_put_p101 10 rfl
theorem dX10_put_45 : decode cX10_put 45 = .ok (.iload_n 2, 1) := dz_at dqX10_put_p101 11 rfl
theorem dX10_put_46 : decode cX10_put 46 = .ok (.iaload, 1) := dz_at dqX10_put_p101 12 rfl
theorem dX10_put_47 : decode cX10_put 47 = .ok (.ifCond .le 7, 3) := dz_at dqX10_put_p101 13 rfl
set_option maxRecDepth 20000 in
theorem dqX10_put_p102 : dz_rn 50 (cX10_put.data.toList.drop 50) [(0, 9), (4, 0), (0, 8), (1, 1), (0, 4), (3, 0), (0, 2), (1, 0), (4, 7), (0, 3), (4, 0), (0, 13), (0, 22), (0, 4)] = some [(50, .iconst 1, 1), (51, .goto 4, 3), (54, .iconst 0, 1), (55, .istore 4, 2), (57, .aload_n 0, 1), (58, .getfield 38, 3), (61, .iload_n 2, 1), (62, .iload 4, 2), (64, .ifCond .eq 7, 3), (67, .iload_n 3, 1), (68, .goto 4, 3), (71, .iconst (-1), 1), (72, .iastore, 1), (73, .aload_n 0, 1)] := by decide +kernel
theorem dX10_put_50 : decode cX10_put 50 = .ok (.iconst 1, 1) := dz_at dqX10_put_p102 0 rfl
theorem dX10_put_51 : decode cX10_put 51 = .ok (.goto 4, 3) := dz_at dqX10_put_p102 1 rfl
theorem dX10_put_54 : decode cX10_put 54 = .ok (.iconst 0, 1) := dz_at dqX10_put_p102 2 rfl
theorem dX10_put_55 : decode cX10_put 55 = .ok (.istore 4, 2) := dz_at dqX10_put_p102 3 rfl
theorem dX10_put_57 : decode cX10_put 57 = .ok (.aload_n 0, 1) := dz_at dqX10_put_p102 4 rfl
theorem dX10_put_58 : decode cX10_put 58 = .ok (.getfield 38, 3) := dz_at dqX10_put_p102 5 rfl
theorem dX10_put_61 : decode cX10_put 61 = .ok (.iload_n 2, 1) := dz_at dqX10_put_p102 6 rfl
theorem dX10_put_62 : decode cX10_put 62 = .ok (.iload 4, 2) := dz_at dqX10_put_p102 7 rfl
theorem dX10_put_64 : decode cX10_put 64 = .ok (.ifCond .eq 7, 3) := dz_at dqX10_put_p102 8 rfl
theorem dX10_put_67 : decode cX10_put 67 = .ok (.iload_n 3, 1) := dz_at dqX10_put_p102 9 rfl
theorem dX10_put_68 : decode cX10_put 68 = .ok (.goto 4, 3) := dz_at dqX10_put_p102 10 rfl
theorem dX10_put_71 : decode cX10_put 71 = .ok (.iconst (-1), 1) := dz_at dqX10_put_p102 11 rfl
theorem dX10_put_72 : decode cX10_put 72 = .ok (.iastore, 1) := dz_at dqX10_put_p102 12 rfl
theorem dX10_put_73 : decode cX10_put 73 = .ok (.aload_n 0, 1) := dz_at dqX10_put_p102 13 rfl
set_option maxRecDepth 20000 in
theorem dqX10_put_p103 : dz_rn 74 (cX10_put.data.toList.drop 74) [(3, 0), (0, 2), (1, 0), (4, 7), (0, 4), (3, 0), (0, 2), (0, 10), (4, 0), (0, 8), (0, 22), (0, 4), (3, 0), (0, 2)] = some [(74, .getfield 41, 3), (77, .iload_n 2, 1), (78, .iload 4, 2), (80, .ifCond .eq 12, 3), (83, .aload_n 0, 1), (84, .getfield 35, 3), (87, .iload_n 2, 1), (88, .iaload, 1), (89, .goto 4, 3), (92, .iconst 0, 1), (93, .iastore, 1), (94, .aload_n 0, 1), (95, .getfield 32, 3), (98, .iload_n 2, 1)] := by decide +kernel
theorem dX10_put_74 : decode cX10_put 74 = .ok (.getfield 41, 3) := dz_at dqX10_put_p103 0 rfl
theorem dX10_put_77 : decode cX10_put 77 = .ok (.iload_n 2, 1) := dz_at dqX10_put_p103 1 rfl
theorem dX10_put_78 : decode cX10_put 78 = .ok (.iload 4, 2) := dz_at dqX10_put_p103 2 rfl
theorem dX10_put_80 : decode cX10_put 80 = .ok (.ifCond .eq 12, 3) := dz_at dqX10_put_p103 3 rfl
theorem dX10_put_83 : decode cX10_put 83 = .ok (.aload_n 0, 1) := dz_at dqX10_put_p103 4 rfl
theorem dX10_put_84 : decode cX10_put 84 = .ok (.getfield 35, 3) := dz_at dqX10_put_p103 5 rfl
theorem dX10_put_87 : decode cX10_put 87 = .ok (.iload_n 2, 1) := dz_at dqX10_put_p103 6 rfl
theorem dX10_put_88 : decode cX10_put 88 = .ok (.iaload, 1) := dz_at dqX10_put_p103 7 rfl
theorem dX10_put_89 : decode cX10_put 89 = .ok (.goto 4, 3) := dz_at dqX10_put_p103 8 rfl
theorem dX10_put_92 : decode cX10_put 92 = .ok (.iconst 0, 1) := dz_at dqX10_put_p103 9 rfl
theorem dX10_put_93 : decode cX10_put 93 = .ok (.iastore, 1) := dz_at dqX10_put_p103 10 rfl
theorem dX10_put_94 : decode cX10_put 94 = .ok (.aload_n 0, 1) := dz_at dqX10_put_p103 11 rfl
theorem dX10_put_95 : decode cX10_put 95 = .ok (.getfield 32, 3) := dz_at dqX10_put_p103 12 rfl
theorem dX10_put_98 : decode cX10_put 98 = .ok (.iload_n 2, 1) := dz_at dqX10_put_p103 13 rfl
set_option maxRecDepth 20000 in
theorem dqX10_put_p104 : dz_rn 99 (cX10_put.data.toList.drop 99) [(0, 1), (0, 22), (0, 4), (3, 0), (0, 2), (2, 0), (0, 22), (0, 4), (3, 0), (0, 2), (0, 4), (3, 0), (0, 22), (0, 3)] = some [(99, .iload_n 1, 1), (100, .iastore, 1), (101, .aload_n 0, 1), (102, .getfield 35, 3), (105, .iload_n 2, 1), (106, .bipush 100, 2), (108, .iastore, 1), (109, .aload_n 0, 1), (110, .getfield 44, 3), (113, .iload_n 2, 1), (114, .aload_n 0, 1), (115, .getfield 125, 3), (118, .iastore, 1), (119, .iload_n 3, 1)] := by decide +kernel
theorem dX10_put_99 : decode cX10_put 99 = .ok (.iload_n 1, 1) := dz_at dqX10_put_p104 0 rfl
theorem dX10_put_100 : decode cX10_put 100 = .ok (.iastore, 1) := dz_at dqX10_put_p104 1 rfl
theorem dX10_put_101 : decode cX10_put 101 = .ok (.aload_n 0, 1) := dz_at dqX10_put_p104 2 rfl
theorem dX10_put_102 : decode cX10_put 102 = .ok (.getfield 35, 3) := dz_at dqX10_put_p104 3 rfl
theorem dX10_put_105 : decode cX10_put 105 = .ok (.iload_n 2, 1) := dz_at dqX10_put_p104 4 rfl
theorem dX10_put_106 : decode cX10_put 106 = .ok (.bipush 100, 2) := dz_at dqX10_put_p104 5 rfl
theorem dX10_put_108 : decode cX10_put 108 = .ok (.iastore, 1) := dz_at dqX10_put_p104 6 rfl
theorem dX10_put_109 : decode cX10_put 109 = .ok (.aload_n 0, 1) := dz_at dqX10_put_p104 7 rfl
theorem dX10_put_110 : decode cX10_put 110 = .ok (.getfield 44, 3) := dz_at dqX10_put_p104 8 rfl
theorem dX10_put_113 : decode cX10_put 113 = .ok (.iload_n 2, 1) := dz_at dqX10_put_p104 9 rfl
theorem dX10_put_114 : decode cX10_put 114 = .ok (.aload_n 0, 1) := dz_at dqX10_put_p104 10 rfl
theorem dX10_put_115 : decode cX10_put 115 = .ok (.getfield 125, 3) := dz_at dqX10_put_p104 11 rfl
theorem dX10_put_118 : decode cX10_put 118 = .ok (.iastore, 1) := dz_at dqX10_put_p104 12 rfl
theorem dX10_put_119 : decode cX10_put 119 = .ok (.iload_n 3, 1) := dz_at dqX10_put_p104 13 rfl
theorem dX10_put_120 : decode cX10_put 120 = .ok (.ireturn, 1) := by decide +kernel
set_option maxRecDepth 20000 in
theorem ggX10_clear_X10_isCorner : GoodIn wsX10_clear wsX10_isCorner := goodIn_r _ [8, 9, 10, 7, 11] rfl (by decide +kernel)
set_option maxRecDepth 20000 in
theorem gX10_clear_X10_isCorner : GoodIn wsX10_clear (va_wsS RX10 118 yX10_isCorner wsX10_isCorner) := goodIn_app (goodIn_of _ (by decide +kernel)) ggX10_clear_X10_isCorner
set_option maxRecDepth 20000 in
theorem dqX10_clear_p100 : dz_rn 0 (cX10_clear.data.toList.drop 0) [(0, 1), (3, 2), (4, 8), (2, 0), (0, 12), (0, 4), (3, 0), (0, 1), (0, 10), (0, 13), (4, 2), (2, 0), (0, 12), (0, 4)] = some [(0, .iload_n 1, 1), (1, .invokestatic 118, 3), (4, .ifCond .ne 6, 3), (7, .bipush (-2), 2), (9, .ireturn, 1), (10, .aload_n 0, 1), (11, .getfield 32, 3), (14, .iload_n 1, 1), (15, .iaload, 1), (16, .iconst (-1), 1), (17, .if_icmp .ne 6, 3), (20, .bipush (-4), 2), (22, .ireturn, 1), (23, .aload_n 0, 1)] := by decide +kernel
theorem dX10_clear_0 : decode cX10_clear 0 = .ok (.iload_n 1, 1) := dz_at dqX10_clear_p100 0 rfl
theorem dX10_clear_1 : decode cX10_clear 1 = .ok (.invokestatic 118, 3) := dz_at dqX10_clear_p100 1 rfl
theorem dX10_clear_4 : decode cX10_clear 4 = .ok (.ifCond .ne 6, 3) := dz_at dqX10_clear_p100 2 rfl
theorem dX10_clear_7 : decode cX10_clear 7 = .ok (.bipush (-2), 2) := dz_at dqX10_clear_p100 3 rfl
theorem dX10_clear_9 : decode cX10_clear 9 = .ok (.ireturn, 1) := dz_at dqX10_clear_p100 4 rfl
theorem dX10_clear_10 : decode cX10_clear 10 = .ok (.aload_n 0, 1) := dz_at dqX10_clear_p100 5 rfl
theorem dX10_clear_11 : decode cX10_clear 11 = .ok (.getfield 32, 3) := dz_at dqX10_clear_p100 6 rfl
theorem dX10_clear_14 : decode cX10_clear 14 = .ok (.iload_n 1, 1) := dz_at dqX10_clear_p100 7 rfl
theorem dX10_clear_15 : decode cX10_clear 15 = .ok (.iaload, 1) := dz_at dqX10_clear_p100 8 rfl
theorem dX10_clear_16 : decode cX10_clear 16 = .ok (.iconst (-1), 1) := dz_at dqX10_clear_p100 9 rfl
theorem dX10_clear_17 : decode cX10_clear 17 = .ok (.if_icmp .ne 6, 3) := dz_at dqX10_clear_p100 10 rfl
theorem dX10_clear_20 : decode cX10_clear 20 = .ok (.bipush (-4), 2) := dz_at dqX10_clear_p100 11 rfl
theorem dX10_clear_22 : decode cX10_clear 22 = .ok (.ireturn, 1) := dz_at dqX10_clear_p100 12 rfl
theorem dX10_clear_23 : decode cX10_clear 23 = .ok (.aload_n 0, 1) := dz_at dqX10_clear_p100 13 rfl
set_option maxRecDepth 20000 in
theorem dqX10_clear_p101 : dz_rn 24 (cX10_clear.data.toList.drop 24) [(3, 0), (0, 1), (0, 10), (0, 20), (0, 4), (3, 0), (0, 1), (0, 13), (0, 22), (0, 4), (3, 0), (0, 1), (0, 13), (0, 22)] = some [(24, .getfield 32, 3), (27, .iload_n 1, 1), (28, .iaload, 1), (29, .istore_n 2, 1), (30, .aload_n 0, 1), (31, .getfield 32, 3), (34, .iload_n 1, 1), (35, .iconst (-1), 1), (36, .iastore, 1), (37, .aload_n 0, 1), (38, .getfield 38, 3), (41, .iload_n 1, 1), (42, .iconst (-1), 1), (43, .iastore, 1)] := by decide +kernel
theorem dX10_clear_24 : decode cX10_clear 24 = .ok (.getfield 32, 3) := dz_at dqX10_clear_p101 0 rfl
theorem dX10_clear_27 : decode cX10_clear 27 = .ok (.iload_n 1, 1) := dz_at dqX10_clear_p101 1 rfl
theorem dX10_clear_28 : decode cX10_clear 28 = .ok (.iaload, 1) := dz_at dqX10_clear_p101 2 rfl
theorem dX10_clear_29 : decode cX10_clear 29 = .ok (.istore_n 2, 1) := dz_at dqX10_clear_p101 3 rfl
theorem dX10_clear_30 : decode cX10_clear 30 = .ok (.aload_n 0, 1) := dz_at dqX10_clear_p101 4 rfl
theorem dX10_clear_31 : decode cX10_clear 31 = .ok (.getfield 32, 3) := dz_at dqX10_clear_p101 5 rfl
theorem dX10_clear_34 : decode cX10_clear 34 = .ok (.iload_n 1, 1) := dz_at dqX10_clear_p101 6 rfl
theorem dX10_clear_35 : decode cX10_clear 35 = .ok (.iconst (-1), 1) := dz_at dqX10_clear_p101 7 rfl
theorem dX10_clear_36 : decode cX10_clear 36 = .ok (.iastore, 1) := dz_at dqX10_clear_p101 8 rfl
theorem dX10_clear_37 : decode cX10_clear 37 = .ok (.aload_n 0, 1) := dz_at dqX10_clear_p101 9 rfl
theorem dX10_clear_38 : decode cX10_clear 38 = .ok (.getfield 38, 3) := dz_at dqX10_clear_p101 10 rfl
theorem dX10_clear_41 : decode cX10_clear 41 = .ok (.iload_n 1, 1) := dz_at dqX10_clear_p101 11 rfl
theorem dX10_clear_42 : decode cX10_clear 42 = .ok (.iconst (-1), 1) := dz_at dqX10_clear_p101 12 rfl
theorem dX10_clear_43 : decode cX10_clear 43 = .ok (.iastore, 1) := dz_at dqX10_clear_p101 13 rfl
set_option maxRecDepth 20000 in
theorem dqX10_clear_p102 : dz_rn 44 (cX10_clear.data.toList.drop 44) [(0, 4), (3, 0), (0, 1), (0, 8), (0, 22), (0, 4), (3, 0), (0, 1), (0, 8), (0, 22), (0, 2), (0, 12)] = some [(44, .aload_n 0, 1), (45, .getfield 35, 3), (48, .iload_n 1, 1), (49, .iconst 0, 1), (50, .iastore, 1), (51, .aload_n 0, 1), (52, .getfield 41, 3), (55, .iload_n 1, 1), (56, .iconst 0, 1), (57, .iastore, 1), (58, .iload_n 2, 1), (59, .ireturn, 1)] := by decide +kernel
theorem dX10_clear_44 : decode cX10_clear 44 = .ok (.aload_n 0, 1) := dz_at dqX10_clear_p102 0 rfl
theorem dX10_clear_45 : decode cX10_clear 45 = .ok (.getfield 35, 3) := dz_at dqX10_clear_p102 1 rfl
theorem dX10_clear_48 : decode cX10_clear 48 = .ok (.iload_n 1, 1) := dz_at dqX10_clear_p102 2 rfl
theorem dX10_clear_49 : decode cX10_clear 49 = .ok (.iconst 0, 1) := dz_at dqX10_clear_p102 3 rfl
theorem dX10_clear_50 : decode cX10_clear 50 = .ok (.iastore, 1) := dz_at dqX10_clear_p102 4 rfl
theorem dX10_clear_51 : decode cX10_clear 51 = .ok (.aload_n 0, 1) := dz_at dqX10_clear_p102 5 rfl
theorem dX10_clear_52 : decode cX10_clear 52 = .ok (.getfield 41, 3) := dz_at dqX10_clear_p102 6 rfl
theorem dX10_clear_55 : decode cX10_clear 55 = .ok (.iload_n 1, 1) := dz_at dqX10_clear_p102 7 rfl
theorem dX10_clear_56 : decode cX10_clear 56 = .ok (.iconst 0, 1) := dz_at dqX10_clear_p102 8 rfl
theorem dX10_clear_57 : decode cX10_clear 57 = .ok (.iastore, 1) := dz_at dqX10_clear_p102 9 rfl
theorem dX10_clear_58 : decode cX10_clear 58 = .ok (.iload_n 2, 1) := dz_at dqX10_clear_p102 10 rfl
theorem dX10_clear_59 : decode cX10_clear 59 = .ok (.ireturn, 1) := dz_at dqX10_clear_p102 11 rfl
set_option maxRecDepth 20000 in
theorem ggX10_corner_X10_isCorner : GoodIn wsX10_corner wsX10_isCorner := goodIn_r _ [9, 10, 11, 8, 12] rfl (by decide +kernel)
set_option maxRecDepth 20000 in
theorem gX10_corner_X10_isCorner : GoodIn wsX10_corner (va_wsS RX10 118 yX10_isCorner wsX10_isCorner) := goodIn_app (goodIn_of _ (by decide +kernel)) ggX10_corner_X10_isCorner
set_option maxRecDepth 20000 in
theorem dqX10_corner_p100 : dz_rn 0 (cX10_corner.data.toList.drop 0) [(0, 1), (3, 2), (4, 8), (2, 0), (0, 12), (0, 2)] = some [(0, .iload_n 1, 1), (1, .invokestatic 118, 3), (4, .ifCond .ne 6, 3), (7, .bipush (-2), 2), (9, .ireturn, 1), (10, .iload_n 2, 1)] := by decide +kernel
theorem dX10_corner_0 : decode cX10_corner 0 = .ok (.iload_n 1, 1) := dz_at dqX10_corner_p100 0 rfl
theorem dX10_corner_1 : decode cX10_corner 1 = .ok (.invokestatic 118, 3) := dz_at dqX10_corner_p100 1 rfl
theorem dX10_corner_4 : decode cX10_corner 4 = .ok (.ifCond .ne 6, 3) := dz_at dqX10_corner_p100 2 rfl
theorem dX10_corner_7 : decode cX10_corner 7 = .ok (.bipush (-2), 2) := dz_at dqX10_corner_p100 3 rfl
theorem dX10_corner_9 : decode cX10_corner 9 = .ok (.ireturn, 1) := dz_at dqX10_corner_p100 4 rfl
theorem dX10_corner_10 : decode cX10_corner 10 = .ok (.iload_n 2, 1) := dz_at dqX10_corner_p100 5 rfl
theorem dX10_corner_11 : decode cX10_corner 11 = .ok (.tableswitch 96 0 4 #[33, 40, 61, 68, 89], 33) := by decide +kernel
set_option maxRecDepth 20000 in
theorem dqX10_corner_p101 : dz_rn 44 (cX10_corner.data.toList.drop 44) [(0, 4), (3, 0), (0, 1), (0, 10), (0, 12), (0, 4), (3, 0), (0, 1), (0, 10), (0, 13), (4, 2), (0, 13), (4, 0), (0, 4)] = some [(44, .aload_n 0, 1), (45, .getfield 32, 3), (48, .iload_n 1, 1), (49, .iaload, 1), (50, .ireturn, 1), (51, .aload_n 0, 1), (52, .getfield 32, 3), (55, .iload_n 1, 1), (56, .iaload, 1), (57, .iconst (-1), 1), (58, .if_icmp .ne 7, 3), (61, .iconst (-1), 1), (62, .goto 9, 3), (65, .aload_n 0, 1)] := by decide +kernel
theorem dX10_corner_44 : decode cX10_corner 44 = .ok (.aload_n 0, 1) := dz_at dqX10_corner_p101 0 rfl
theorem dX10_corner_45 : decode cX10_corner 45 = .ok (.getfield 32, 3) := dz_at dqX10_corner_p101 1 rfl
theorem dX10_corner_48 : decode cX10_corner 48 = .ok (.iload_n 1, 1) := dz_at dqX10_corner_p101 2 rfl
theorem dX10_corner_49 : decode cX10_corner 49 = .ok (.iaload, 1) := dz_at dqX10_corner_p101 3 rfl
theorem dX10_corner_50 : decode cX10_corner 50 = .ok (.ireturn, 1) := dz_at dqX10_corner_p101 4 rfl
theorem dX10_corner_51 : decode cX10_corner 51 = .ok (.aload_n 0, 1) := dz_at dqX10_corner_p101 5 rfl
theorem dX10_corner_52 : decode cX10_corner 52 = .ok (.getfield 32, 3) := dz_at dqX10_corner_p101 6 rfl
theorem dX10_corner_55 : decode cX10_corner 55 = .ok (.iload_n 1, 1) := dz_at dqX10_corner_p101 7 rfl
theorem dX10_corner_56 : decode cX10_corner 56 = .ok (.iaload, 1) := dz_at dqX10_corner_p101 8 rfl
theorem dX10_corner_57 : decode cX10_corner 57 = .ok (.iconst (-1), 1) := dz_at dqX10_corner_p101 9 rfl
theorem dX10_corner_58 : decode cX10_corner 58 = .ok (.if_icmp .ne 7, 3) := dz_at dqX10_corner_p101 10 rfl
theorem dX10_corner_61 : decode cX10_corner 61 = .ok (.iconst (-1), 1) := dz_at dqX10_corner_p101 11 rfl
theorem dX10_corner_62 : decode cX10_corner 62 = .ok (.goto 9, 3) := dz_at dqX10_corner_p101 12 rfl
theorem dX10_corner_65 : decode cX10_corner 65 = .ok (.aload_n 0, 1) := dz_at dqX10_corner_p101 13 rfl
set_option maxRecDepth 20000 in
theorem dqX10_corner_p102 : dz_rn 66 (cX10_corner.data.toList.drop 66) [(3, 0), (0, 1), (0, 10), (0, 12), (0, 4), (3, 0), (0, 1), (0, 10), (0, 12), (0, 4), (3, 0), (0, 1), (0, 10), (0, 13)] = some [(66, .getfield 35, 3), (69, .iload_n 1, 1), (70, .iaload, 1), (71, .ireturn, 1), (72, .aload_n 0, 1), (73, .getfield 38, 3), (76, .iload_n 1, 1), (77, .iaload, 1), (78, .ireturn, 1), (79, .aload_n 0, 1), (80, .getfield 38, 3), (83, .iload_n 1, 1), (84, .iaload, 1), (85, .iconst (-1), 1)] := by decide +kernel
theorem dX10_corner_66 : decode cX10_corner 66 = .ok (.getfield 35, 3) := dz_at dqX10_corner_p102 0 rfl
theorem dX10_corner_69 : decode cX10_corner 69 = .ok (.iload_n 1, 1) := dz_at dqX10_corner_p102 1 rfl
theorem dX10_corner_70 : decode cX10_corner 70 = .ok (.iaload, 1) := dz_at dqX10_corner_p102 2 rfl
theorem dX10_corner_71 : decode cX10_corner 71 = .ok (.ireturn, 1) := dz_at dqX10_corner_p102 3 rfl
theorem dX10_corner_72 : decode cX10_corner 72 = .ok (.aload_n 0, 1) := dz_at dqX10_corner_p102 4 rfl
theorem dX10_corner_73 : decode cX10_corner 73 = .ok (.getfield 38, 3) := dz_at dqX10_corner_p102 5 rfl
theorem dX10_corner_76 : decode cX10_corner 76 = .ok (.iload_n 1, 1) := dz_at dqX10_corner_p102 6 rfl
theorem dX10_corner_77 : decode cX10_corner 77 = .ok (.iaload, 1) := dz_at dqX10_corner_p102 7 rfl
theorem dX10_corner_78 : decode cX10_corner 78 = .ok (.ireturn, 1) := dz_at dqX10_corner_p102 8 rfl
theorem dX10_corner_79 : decode cX10_corner 79 = .ok (.aload_n 0, 1) := dz_at dqX10_corner_p102 9 rfl
theorem dX10_corner_80 : decode cX10_corner 80 = .ok (.getfield 38, 3) := dz_at dqX10_corner_p102 10 rfl
theorem dX10_corner_83 : decode cX10_corner 83 = .ok (.iload_n 1, 1) := dz_at dqX10_corner_p102 11 rfl
theorem dX10_corner_84 : decode cX10_corner 84 = .ok (.iaload, 1) := dz_at dqX10_corner_p102 12 rfl
theorem dX10_corner_85 : decode cX10_corner 85 = .ok (.iconst (-1), 1) := dz_at dqX10_corner_p102 13 rfl
set_option maxRecDepth 20000 in
theorem dqX10_corner_p103 : dz_rn 86 (cX10_corner.data.toList.drop 86) [(4, 2), (0, 13), (4, 0), (0, 4), (3, 0), (0, 1), (0, 10), (0, 12), (0, 4), (3, 0), (0, 1), (0, 10), (0, 12), (2, 0)] = some [(86, .if_icmp .ne 7, 3), (89, .iconst (-1), 1), (90, .goto 9, 3), (93, .aload_n 0, 1), (94, .getfield 41, 3), (97, .iload_n 1, 1), (98, .iaload, 1), (99, .ireturn, 1), (100, .aload_n 0, 1), (101, .getfield 44, 3), (104, .iload_n 1, 1), (105, .iaload, 1), (106, .ireturn, 1), (107, .bipush (-3), 2)] := by decide +kernel
theorem dX10_corner_86 : decode cX10_corner 86 = .ok (.if_icmp .ne 7, 3) := dz_at dqX10_corner_p103 0 rfl
theorem dX10_corner_89 : decode cX10_corner 89 = .ok (.iconst (-1), 1) := dz_at dqX10_corner_p103 1 rfl
theorem dX10_corner_90 : decode cX10_corner 90 = .ok (.goto 9, 3) := dz_at dqX10_corner_p103 2 rfl
theorem dX10_corner_93 : decode cX10_corner 93 = .ok (.aload_n 0, 1) := dz_at dqX10_corner_p103 3 rfl
theorem dX10_corner_94 : decode cX10_corner 94 = .ok (.getfield 41, 3) := dz_at dqX10_corner_p103 4 rfl
theorem dX10_corner_97 : decode cX10_corner 97 = .ok (.iload_n 1, 1) := dz_at dqX10_corner_p103 5 rfl
theorem dX10_corner_98 : decode cX10_corner 98 = .ok (.iaload, 1) := dz_at dqX10_corner_p103 6 rfl
theorem dX10_corner_99 : decode cX10_corner 99 = .ok (.ireturn, 1) := dz_at dqX10_corner_p103 7 rfl
theorem dX10_corner_100 : decode cX10_corner 100 = .ok (.aload_n 0, 1) := dz_at dqX10_corner_p103 8 rfl
theorem dX10_corner_101 : decode cX10_corner 101 = .ok (.getfield 44, 3) := dz_at dqX10_corner_p103 9 rfl
theorem dX10_corner_104 : decode cX10_corner 104 = .ok (.iload_n 1, 1) := dz_at dqX10_corner_p103 10 rfl
theorem dX10_corner_105 : decode cX10_corner 105 = .ok (.iaload, 1) := dz_at dqX10_corner_p103 11 rfl
theorem dX10_corner_106 : decode cX10_corner 106 = .ok (.ireturn, 1) := dz_at dqX10_corner_p103 12 rfl
theorem dX10_corner_107 : decode cX10_corner 107 = .ok (.bipush (-3), 2) := dz_at dqX10_corner_p103 13 rfl
theorem dX10_corner_109 : decode cX10_corner 109 = .ok (.ireturn, 1) := by decide +kernel
set_option maxRecDepth 20000 in
theorem ggX10_where_X10_isThing : GoodIn wsX10_where wsX10_isThing := goodIn_r _ [4, 5, 6, 3, 7] rfl (by decide +kernel)
set_option maxRecDepth 20000 in
theorem gX10_where_X10_isThing : GoodIn wsX10_where (va_wsS RX10 112 yX10_isThing wsX10_isThing) := goodIn_app (goodIn_of _ (by decide +kernel)) ggX10_where_X10_isThing
set_option maxRecDepth 20000 in
theorem ggX10_where_X10_cornerOf : GoodIn wsX10_where wsX10_cornerOf := goodIn_r _ [11, 12, 13, 14, 15, 16, 17, 18, 19, 20, 21, 22, 23, 24, 25, 26, 27, 28, 29, 30, 31, 32, 33, 34, 35, 36, 37, 38, 39, 40, 41, 42, 43, 44, 45, 46, 47, 48, 49, 50, 51] rfl (by decide +kernel)
set_option maxRecDepth 20000 in
theorem gX10_where_X10_cornerOf : GoodIn wsX10_where (wsV RX10 121 RX10 yX10_cornerOf wsX10_cornerOf) := goodIn_app (goodIn_of _ (by decide +kernel)) ggX10_where_X10_cornerOf
set_option maxRecDepth 20000 in
theorem dqX10_where_p100 : dz_rn 0 (cX10_where.data.toList.drop 0) [(0, 1), (3, 2), (4, 7), (0, 4), (0, 1), (3, 1), (4, 0), (2, 0), (0, 12)] = some [(0, .iload_n 1, 1), (1, .invokestatic 112, 3), (4, .ifCond .eq 11, 3), (7, .aload_n 0, 1), (8, .iload_n 1, 1), (9, .invokevirtual 121, 3), (12, .goto 5, 3), (15, .bipush (-2), 2), (17, .ireturn, 1)] := by decide +kernel
theorem dX10_where_0 : decode cX10_where 0 = .ok (.iload_n 1, 1) := dz_at dqX10_where_p100 0 rfl
theorem dX10_where_1 : decode cX10_where 1 = .ok (.invokestatic 112, 3) := dz_at dqX10_where_p100 1 rfl
theorem dX10_where_4 : decode cX10_where 4 = .ok (.ifCond .eq 11, 3) := dz_at dqX10_where_p100 2 rfl
theorem dX10_where_7 : decode cX10_where 7 = .ok (.aload_n 0, 1) := dz_at dqX10_where_p100 3 rfl
theorem dX10_where_8 : decode cX10_where 8 = .ok (.iload_n 1, 1) := dz_at dqX10_where_p100 4 rfl
theorem dX10_where_9 : decode cX10_where 9 = .ok (.invokevirtual 121, 3) := dz_at dqX10_where_p100 5 rfl
theorem dX10_where_12 : decode cX10_where 12 = .ok (.goto 5, 3) := dz_at dqX10_where_p100 6 rfl
theorem dX10_where_15 : decode cX10_where 15 = .ok (.bipush (-2), 2) := dz_at dqX10_where_p100 7 rfl
theorem dX10_where_17 : decode cX10_where 17 = .ok (.ireturn, 1) := dz_at dqX10_where_p100 8 rfl
set_option maxRecDepth 20000 in
theorem ggX10_isPupil_X10_in : GoodIn wsX10_isPupil wsX10_in := goodIn_r _ [4] rfl (by decide +kernel)
set_option maxRecDepth 20000 in
theorem gX10_isPupil_X10_in : GoodIn wsX10_isPupil (va_wsS RX10 93 yX10_in wsX10_in) := goodIn_app (goodIn_of _ (by decide +kernel)) ggX10_isPupil_X10_in
set_option maxRecDepth 20000 in
theorem dqX10_isPupil_p100 : dz_rn 0 (cX10_isPupil.data.toList.drop 0) [(0, 0), (0, 8), (0, 15), (3, 2), (0, 12)] = some [(0, .iload_n 0, 1), (1, .iconst 0, 1), (2, .iconst 3, 1), (3, .invokestatic 93, 3), (6, .ireturn, 1)] := by decide +kernel
theorem dX10_isPupil_0 : decode cX10_isPupil 0 = .ok (.iload_n 0, 1) := dz_at dqX10_isPupil_p100 0 rfl
theorem dX10_isPupil_1 : decode cX10_isPupil 1 = .ok (.iconst 0, 1) := dz_at dqX10_isPupil_p100 1 rfl
theorem dX10_isPupil_2 : decode cX10_isPupil 2 = .ok (.iconst 3, 1) := dz_at dqX10_isPupil_p100 2 rfl
theorem dX10_isPupil_3 : decode cX10_isPupil 3 = .ok (.invokestatic 93, 3) := dz_at dqX10_isPupil_p100 3 rfl
theorem dX10_isPupil_6 : decode cX10_isPupil 6 = .ok (.ireturn, 1) := dz_at dqX10_isPupil_p100 4 rfl
abbrev wMod (cI cZ cQ : ClassId) (b : Nat → Nat) (mday : Int32) (mdoo : Int32) (mdA : Nat → Int32) (mdB : Nat → Int32) (mfar : Nat → Int32) (mmar : Nat → Int32) (mtel : Int32) (mgai : Int32) (mfal : Nat → Int32) (mtop : Nat → Int32) (mstr : Nat → Int32) (mgho : Nat → Int32) (mfai : Nat → Int32) (mpto : Nat → Int32) (mwal : Nat → Int32) (mahd : Nat → Int32) (mahf : Nat → Int32) (mcho : Nat → Int32) (mbes : Nat → Int32) (mbyt : Int32) (mtxt : Nat → Int32) (mpos : Int32) (mtka : Int32) (mtok : Int64) (mdig : Int32) (mnum : Int32) (mfau : Int32) (mrdm : Int32) (mrea : Nat → Int32) (mlin : Int32) (mlne : Nat → Int32) (mthg : Nat → Int32) (mord : Nat → Int32) (mbor : Nat → Int32) (mbsm : Int32) (mans : Nat → Int32) (mand : Nat → Int32) (manr : Nat → Int32) (mali : Nat → Int32) : va_W := [((b 39), .inr (10, [.int mday, .int mdoo, .ref (b 2), .ref (b 3), .ref (b 4), .ref (b 5), .int mtel, .int mgai, .ref (b 8), .ref (b 9), .ref (b 10), .ref (b 11), .ref (b 12), .ref (b 13), .ref (b 14), .ref (b 15), .ref (b 16), .ref (b 17), .ref (b 18), .int mbyt, .ref (b 20), .int mpos, .int mtka, .long mtok, .int mdig, .int mnum, .int mfau, .int mrdm, .ref (b 28), .int mlin, .ref (b 30), .ref (b 31), .ref (b 32), .ref (b 33), .int mbsm, .ref (b 35), .ref (b 36), .ref (b 37), .ref (b 38)])), ((b 2), .inl (cI, 14, .inl mdA)), ((b 3), .inl (cI, 14, .inl mdB)), ((b 4), .inl (cI, 8, .inl mfar)), ((b 5), .inl (cI, 24, .inl mmar)), ((b 8), .inl (cI, 11, .inl mfal)), ((b 9), .inl (cI, 48, .inl mtop)), ((b 10), .inl (cI, 48, .inl mstr)), ((b 11), .inl (cI, 48, .inl mgho)), ((b 12), .inl (cI, 48, .inl mfai)), ((b 13), .inl (cI, 48, .inl mpto)), ((b 14), .inl (cI, 8, .inl mwal)), ((b 15), .inl (cI, 240, .inl mahd)), ((b 16), .inl (cI, 240, .inl mahf)), ((b 17), .inl (cI, 5, .inl mcho)), ((b 18), .inl (cI, 4, .inl mbes)), ((b 20), .inl (cI, 160, .inl mtxt)), ((b 28), .inl (cI, 30, .inl mrea)), ((b 30), .inl (cI, 30, .inl mlne)), ((b 31), .inl (cI, 8, .inl mthg)), ((b 32), .inl (cI, 8, .inl mord)), ((b 33), .inl (cI, 8, .inl mbor)), ((b 35), .inl (cI, 4, .inl mans)), ((b 36), .inl (cI, 48, .inl mand)), ((b 37), .inl (cZ, 48, .inl manr)), ((b 38), .inl (cI, 100, .inl mali))]
def ps (x : Int32) : Nat → Int32
  | 0 => 0
  | k + 1 => ps x k + ((x >>> (nI k &&& 31)) &&& 1)
theorem ps_bc : ∀ j, j < 256 → ps (nI j) 8 = bc (nI j) := by decide +kernel
theorem nI_toNat {y : Int32} (h : 0 ≤ y.toInt) : nI y.toInt.toNat = y := by
  have hl := y.toInt_lt
  apply Int32.toInt_inj.mp
  rw [nI_toInt (by omega)]; omega
theorem ps_step {x y z : Int32} (h : 0 ≤ y.toInt) (hz : z.toInt = y.toInt + 1) : ps x z.toInt.toNat = ps x y.toInt.toNat + ((x >>> (y &&& 31)) &&& 1) := by
  have e : z.toInt.toNat = y.toInt.toNat + 1 := by omega
  rw [e]
  show ps x y.toInt.toNat + ((x >>> (nI y.toInt.toNat &&& 31)) &&& 1) = _
  rw [nI_toNat h]
theorem ps_all {x : Int32} (h : 0 ≤ x.toInt) (h2 : x.toInt ≤ 255) : ps x 8 = bc x := by
  have := ps_bc x.toInt.toNat (by omega)
  rwa [nI_toNat h] at this
def omM (T : Int) (B E : Nat) (f : Nat → Int32) : Nat → Nat
  | 0 => 0
  | k + 1 => omM T B E f k + (T - (f k).toInt).toNat * B ^ (E - k)
theorem omM_upd {T : Int} {B E : Nat} {f : Nat → Int32} {j : Nat} {v : Int32} : ∀ {k : Nat}, k ≤ j → omM T B E (upd f j v) k = omM T B E f k
  | 0, _ => rfl
  | k + 1, h => by
    show omM T B E (upd f j v) k + (T - (upd f j v k).toInt).toNat * B ^ (E - k) = _
    rw [omM_upd (by omega), pk_un (by omega)]; rfl
theorem om_one {T : Int} {B E : Nat} {f : Nat → Int32} {d : Nat} {v : Int32} (hB : 1 ≤ B) (h1 : (f d).toInt < T) (hv : v.toInt = (f d).toInt + 1) : omM T B E (upd f d v) (d + 1) + B ^ (E - d) = omM T B E f (d + 1) := by
  show omM T B E (upd f d v) d + (T - (upd f d v d).toInt).toNat * B ^ (E - d) + B ^ (E - d) = omM T B E f d + (T - (f d).toInt).toNat * B ^ (E - d)
  rw [omM_upd (Nat.le_refl d), pk_us]
  have e : (T - (f d).toInt).toNat = (T - v.toInt).toNat + 1 := by omega
  rw [e, Nat.succ_mul]; omega
theorem om_same {T D : Int} {B E : Nat} {f : Nat → Int32} {y v : Int32} (hB : 1 ≤ B) (hy : y.toInt = D) (h0 : 0 ≤ D) (h1 : (f y.toNatClampNeg).toInt < T) (hv : v.toInt = (f y.toNatClampNeg).toInt + 1) : omM T B E (upd f y.toNatClampNeg v) (D + 1).toNat < omM T B E f (D + 1).toNat := by
  rw [clC hy] at *
  have e : (D + 1).toNat = D.toNat + 1 := by omega
  rw [e]
  have h := om_one (B := B) (E := E) hB h1 hv
  have hp : 1 ≤ B ^ (E - D.toNat) := Nat.one_le_pow _ _ hB
  omega
theorem om_down {T D : Int} {B E : Nat} {f : Nat → Int32} {y v : Int32} (hB : 1 ≤ B) (hy : y.toInt = D) (h0 : 0 ≤ D) (h1 : (f y.toNatClampNeg).toInt < T) : omM T B E (upd f y.toNatClampNeg v) (D - 1 + 1).toNat < omM T B E f (D + 1).toNat := by
  rw [clC hy] at *
  have e : (D + 1).toNat = D.toNat + 1 := by omega
  have e2 : (D - 1 + 1).toNat = D.toNat := by omega
  rw [e, e2, omM_upd (Nat.le_refl _)]
  show _ < omM T B E f D.toNat + (T - (f D.toNat).toInt).toNat * B ^ (E - D.toNat)
  have hp : 1 ≤ B ^ (E - D.toNat) := Nat.one_le_pow _ _ hB
  have hq : 1 ≤ (T - (f D.toNat).toInt).toNat := by omega
  have := Nat.mul_le_mul hq hp
  omega
theorem om_up {T D : Int} {B E : Nat} {f : Nat → Int32} {y v z w : Int32} (hT : (T + 1).toNat + 1 ≤ B) (hy : y.toInt = D) (h0 : 0 ≤ D) (hE : D + 1 ≤ E) (h1 : (f y.toNatClampNeg).toInt < T) (hv : v.toInt = (f y.toNatClampNeg).toInt + 1) (hz : z.toInt = D + 1) (hw : w.toInt = -1) : omM T B E (upd (upd f y.toNatClampNeg v) z.toNatClampNeg w) (D + 1 + 1).toNat < omM T B E f (D + 1).toNat := by
  rw [clC hy] at *
  rw [clC hz]
  have hB : 1 ≤ B := by omega
  have e : (D + 1).toNat = D.toNat + 1 := by omega
  have e2 : (D + 1 + 1).toNat = D.toNat + 1 + 1 := by omega
  rw [e, e2]
  have h := om_one (B := B) (E := E) hB h1 hv
  show omM T B E (upd (upd f D.toNat v) (D.toNat + 1) w) (D.toNat + 1) + (T - (upd (upd f D.toNat v) (D.toNat + 1) w (D.toNat + 1)).toInt).toNat * B ^ (E - (D.toNat + 1)) < _
  rw [omM_upd (Nat.le_refl _), pk_us, hw]
  have e3 : B ^ (E - D.toNat) = B * B ^ (E - (D.toNat + 1)) := by
    rw [show E - D.toNat = (E - (D.toNat + 1)) + 1 by omega, Nat.pow_succ, Nat.mul_comm]
  have hp : 1 ≤ B ^ (E - (D.toNat + 1)) := Nat.one_le_pow _ _ hB
  have e4 : (T - -1).toNat + 1 ≤ B := by omega
  have e5 := Nat.mul_le_mul_right (B ^ (E - (D.toNat + 1))) e4
  rw [Nat.succ_mul] at e5
  omega
def ordOK (T d : Int) (f : Nat → Int32) : Prop := ∀ j : Nat, ((j : Int) ≤ d → -1 ≤ (f j).toInt ∧ (f j).toInt < T) ∧ ((j : Int) < d → 0 ≤ (f j).toInt)
theorem ok_same {T D : Int} {f : Nat → Int32} {y v : Int32} (h : ordOK T D f) (hy : y.toInt = D) (h0 : 0 ≤ D) (hv : v.toInt = (f y.toNatClampNeg).toInt + 1) (hn : v.toInt ≠ T) : ordOK T D (upd f y.toNatClampNeg v) := by
  intro j
  rw [clC hy] at *
  have hd := h D.toNat
  by_cases e : j = D.toNat
  · subst e; rw [pk_us]; omega
  · rw [pk_un e]; exact h j
theorem ok_down {T D : Int} {f : Nat → Int32} {y v : Int32} (h : ordOK T D f) (hy : y.toInt = D) (h0 : 0 ≤ D) : ordOK T (D - 1) (upd f y.toNatClampNeg v) := by
  intro j
  rw [clC hy]
  have hj := h j
  refine ⟨fun q => ?_, fun q => ?_⟩ <;> rw [pk_un (by omega)] <;> omega
theorem ok_up {T D : Int} {f : Nat → Int32} {y v z w : Int32} (h : ordOK T D f) (hT : 0 ≤ T) (hy : y.toInt = D) (h0 : 0 ≤ D) (hv : v.toInt = (f y.toNatClampNeg).toInt + 1) (hn : v.toInt ≠ T) (hz : z.toInt = D + 1) (hw : w.toInt = -1) : ordOK T (D + 1) (upd (upd f y.toNatClampNeg v) z.toNatClampNeg w) := by
  intro j
  rw [clC hy] at *
  rw [clC hz]
  have hd := h D.toNat
  have hj := h j
  by_cases e : j = (D + 1).toNat
  · subst e; rw [pk_us]; omega
  · rw [pk_un e]
    by_cases e2 : j = D.toNat
    · subst e2; rw [pk_us]; omega
    · rw [pk_un e2]; omega
theorem ok_full {T D : Int} {f : Nat → Int32} {y v : Int32} (h : ordOK T D f) (hy : y.toInt = D) (h0 : 0 ≤ D) (hv : v.toInt = (f y.toNatClampNeg).toInt + 1) (hn : v.toInt ≠ T) : ∀ j : Nat, (j : Int) ≤ D → 0 ≤ (upd f y.toNatClampNeg v j).toInt ∧ (upd f y.toNatClampNeg v j).toInt < T := by
  intro j hj
  rw [clC hy] at *
  have hd := h D.toNat
  have hq := h j
  by_cases e : j = D.toNat
  · subst e; rw [pk_us]; omega
  · rw [pk_un e]; omega
def spMarks (f : Nat → Int32) (t m : Int32) (r : Int32) (f' : Nat → Int32) : Prop := ((t.toInt < 0 ∨ 23 < t.toInt) ∧ r = -2 ∧ f' = f) ∨ ((0 ≤ t.toInt ∧ t.toInt ≤ 23) ∧ (m.toInt < 0 ∨ 255 < m.toInt) ∧ r = -3 ∧ f' = f) ∨ ((0 ≤ t.toInt ∧ t.toInt ≤ 23) ∧ (0 ≤ m.toInt ∧ m.toInt ≤ 255) ∧ r = f t.toNatClampNeg ∧ f' = upd f t.toNatClampNeg m)
def spLike (f : Nat → Int32) (x y : Int32) (r : Int32) : Prop := ((0 ≤ x.toInt ∧ x.toInt ≤ 23) ∧ (0 ≤ y.toInt ∧ y.toInt ≤ 23) ∧ r = bc (f x.toNatClampNeg &&& f y.toNatClampNeg)) ∨ ((x.toInt < 0 ∨ 23 < x.toInt ∨ y.toInt < 0 ∨ 23 < y.toInt) ∧ r = -2)
def spSet (t g : Int32) (w v : Int32) (r t' g' : Int32) : Prop := (w = 0 ∧ (1 ≤ v.toInt ∧ v.toInt ≤ 8) ∧ r = t ∧ t' = v ∧ g' = g) ∨ (w = 1 ∧ (0 ≤ v.toInt ∧ v.toInt ≤ 100) ∧ r = g ∧ t' = t ∧ g' = v) ∨ ((¬ (w = 0 ∧ 1 ≤ v.toInt ∧ v.toInt ≤ 8)) ∧ (¬ (w = 1 ∧ 0 ≤ v.toInt ∧ v.toInt ≤ 100)) ∧ r = -3 ∧ t' = t ∧ g' = g)
def spFall (f : Nat → Int32) (k v : Int32) (r : Int32) (f' : Nat → Int32) : Prop := ((k.toInt < 0 ∨ 10 < k.toInt ∨ v.toInt < 0 ∨ 30 < v.toInt) ∧ r = -3 ∧ f' = f) ∨ ((0 ≤ k.toInt ∧ k.toInt ≤ 10) ∧ (0 ≤ v.toInt ∧ v.toInt ≤ 30) ∧ r = f k.toNatClampNeg ∧ f' = upd f k.toNatClampNeg v)
def spDays (d n : Int32) (r d' : Int32) : Prop := ((1 ≤ n.toInt ∧ n.toInt ≤ 60 ∧ d.toInt + n.toInt ≤ 400) ∧ r = d + n ∧ d' = d + n) ∨ ((n.toInt < 1 ∨ 60 < n.toInt ∨ 400 < d.toInt + n.toInt) ∧ r = -3 ∧ d' = d)
def spFig (f : Nat → Int32) (x y v : Int32) (r : Int32) (f' : Nat → Int32) : Prop := ((x.toInt < 0 ∨ 9 < x.toInt ∨ y.toInt < 0 ∨ 9 < y.toInt ∨ x.toInt = y.toInt) ∧ r = -2 ∧ f' = f) ∨ ((0 ≤ x.toInt ∧ x.toInt ≤ 9) ∧ (0 ≤ y.toInt ∧ y.toInt ≤ 9) ∧ x.toInt ≠ y.toInt ∧ (v.toInt < 0 ∨ 9 < v.toInt) ∧ r = -3 ∧ f' = f) ∨ ((0 ≤ x.toInt ∧ x.toInt ≤ 9) ∧ (0 ≤ y.toInt ∧ y.toInt ≤ 9) ∧ x.toInt ≠ y.toInt ∧ (0 ≤ v.toInt ∧ v.toInt ≤ 9) ∧ r = f (x.toInt * 10 + y.toInt).toNat ∧ f' = upd (upd f (x.toInt * 10 + y.toInt).toNat v) (y.toInt * 10 + x.toInt).toNat v)
def spAns (f : Nat → Int32) (p d : Int32) (r : Int32) (f' : Nat → Int32) : Prop := ((p.toInt < 0 ∨ 3 < p.toInt) ∧ r = -2 ∧ f' = f) ∨ ((0 ≤ p.toInt ∧ p.toInt ≤ 3) ∧ (d.toInt < 1 ∨ 60 < d.toInt) ∧ r = -3 ∧ f' = f) ∨ ((0 ≤ p.toInt ∧ p.toInt ≤ 3) ∧ (1 ≤ d.toInt ∧ d.toInt ≤ 60) ∧ 12 ≤ (f p.toNatClampNeg).toInt ∧ r = -5 ∧ f' = f) ∨ ((0 ≤ p.toInt ∧ p.toInt ≤ 3) ∧ (1 ≤ d.toInt ∧ d.toInt ≤ 60) ∧ (f p.toNatClampNeg).toInt < 12 ∧ r = f p.toNatClampNeg + 1 ∧ f' = upd f p.toNatClampNeg (f p.toNatClampNeg + 1))
set_option maxHeartbeats 4000000 in
set_option maxRecDepth 100000 in
theorem k_X10_in (l : Launch) (dC : Nat → ClassId) (dI : Nat → Nat → Nat) (cI cZ cQ : ClassId) (v : Int32) (least : Int32) (most : Int32)  : KR l yX10_in wsX10_in { frames := 0, cells := 0, slots := 0, locals := 0 } (dC, dI) (TY cI cZ cQ) (wNil cI cZ cQ) [.int v, .int least, .int most] (fun r : Int32 => ((((r = 1) ∧ (least.toInt ≤ v.toInt) ∧ (v.toInt ≤ most.toInt)) ∨ ((r = 0) ∧ (v.toInt < least.toInt ∨ most.toInt < v.toInt))))) := by
  refine Met.ofW (cc := cX10_in) (maxL := 3) (ret := (some .boolean)) (by decide) rfl ?_
  intro p e s m args below meth c s₁ B hml hv
  obtain ⟨rfl, hP, hK, hN⟩ := hv
  have hx := B.exec
  have hb := B.bytes
  have hr := B.returns
  have hts := atoms_spec (ws := wsX10_in) B.pre
  have hown : s.vm.findClass RX10 = some m.cls := findClass_of_methodNamed B.named
  have hlocks := B.notSynchronized
  have hl := lv_entry ([.int v, .int least, .int most]) (n := 3) (Nat.le_of_ble_eq_true rfl)
  rw [lg_entry_eq]
  generalize (lg_sl ([.int v, .int least, .int most]) ++ List.replicate (3 - (lg_sl ([.int v, .int least, .int most])).length) Slot.unset).toArray = ls at hl ⊢
  have hl : lv_has ls 3 [(0, .int v), (1, .int least), (2, .int most)] := hl
  refine lv_iload_n hx hb dX10_in_0 rfl (lv_at hl 0 rfl) ?_
  refine lv_iload_n hx hb dX10_in_1 rfl (lv_at hl 1 rfl) ?_
  refine lv_icmp_lt (tgt := 14) hx hb dX10_in_2 (by decide) (fun c1 => ?_) (fun c1 => ?_)
  · have dc1 : v.toInt < least.toInt := ltC rfl rfl c1
    refine lv_iconst (v := 0) hx hb dX10_in_14 (by decide) ?_
    exact W.zret (v := 0) hx hb hr (by decide) (fun tq ht hW => ⟨0, rfl, (Or.inr (⟨rfl, (show v.toInt < least.toInt ∨ most.toInt < v.toInt from by (try rw [show (0 : Int32).toInt = 0 from (show (0 : Int32).toInt = 0 from rfl)]); omega)⟩)), ht⟩) (fun q h => by cases h) dX10_in_15
  · have dc1 : least.toInt ≤ v.toInt := nltC rfl rfl c1
    refine lv_iload_n hx hb dX10_in_5 rfl (lv_at hl 0 rfl) ?_
    refine lv_iload_n hx hb dX10_in_6 rfl (lv_at hl 2 rfl) ?_
    refine lv_icmp_gt (tgt := 14) hx hb dX10_in_7 (by decide) (fun c2 => ?_) (fun c2 => ?_)
    · have dc2 : most.toInt < v.toInt := ltC rfl rfl c2
      refine lv_iconst (v := 0) hx hb dX10_in_14 (by decide) ?_
      exact W.zret (v := 0) hx hb hr (by decide) (fun tq ht hW => ⟨0, rfl, (Or.inr (⟨rfl, (show v.toInt < least.toInt ∨ most.toInt < v.toInt from by (try rw [show (0 : Int32).toInt = 0 from (show (0 : Int32).toInt = 0 from rfl)]); omega)⟩)), ht⟩) (fun q h => by cases h) dX10_in_15
    · have dc2 : v.toInt ≤ most.toInt := nltC rfl rfl c2
      refine lv_iconst (v := 1) hx hb dX10_in_10 (by decide) ?_
      refine lv_goto (tgt := 15) hx hb dX10_in_11 (by decide) ?_
      exact W.zret (v := 1) hx hb hr (by decide) (fun tq ht hW => ⟨1, rfl, (Or.inl (⟨rfl, (show least.toInt ≤ v.toInt from by (try rw [show (1 : Int32).toInt = 1 from (show (1 : Int32).toInt = 1 from rfl)]); omega), (show v.toInt ≤ most.toInt from by (try rw [show (1 : Int32).toInt = 1 from (show (1 : Int32).toInt = 1 from rfl)]); omega)⟩)), ht⟩) (fun q h => by cases h) dX10_in_15
set_option maxHeartbeats 4000000 in
set_option maxRecDepth 100000 in
theorem k_X10_isRoom (l : Launch) (dC : Nat → ClassId) (dI : Nat → Nat → Nat) (cI cZ cQ : ClassId) (v : Int32)  : KR l yX10_isRoom wsX10_isRoom { frames := 1, cells := 0, slots := 0, locals := 22 } (dC, dI) (TY cI cZ cQ) (wNil cI cZ cQ) [.int v] (fun r : Int32 => ((((r = 1) ∧ (0 ≤ v.toInt) ∧ (v.toInt ≤ 7)) ∨ ((r = 0) ∧ (v.toInt < 0 ∨ 7 < v.toInt))))) := by
  refine Met.ofW (cc := cX10_isRoom) (maxL := 1) (ret := (some .boolean)) (by decide) rfl ?_
  intro p e s m args below meth c s₁ B hml hv
  obtain ⟨rfl, hP, hK, hN⟩ := hv
  have hx := B.exec
  have hb := B.bytes
  have hr := B.returns
  have hts := atoms_spec (ws := wsX10_isRoom) B.pre
  have hown : s.vm.findClass RX10 = some m.cls := findClass_of_methodNamed B.named
  have hlocks := B.notSynchronized
  have hl := lv_entry ([.int v]) (n := 1) (Nat.le_of_ble_eq_true rfl)
  rw [lg_entry_eq]
  generalize (lg_sl ([.int v]) ++ List.replicate (1 - (lg_sl ([.int v])).length) Slot.unset).toArray = ls at hl ⊢
  have hl : lv_has ls 1 [(0, .int v)] := hl
  refine lv_iload_n hx hb dX10_isRoom_0 rfl (lv_at hl 0 rfl) ?_
  refine lv_iconst (v := 0) hx hb dX10_isRoom_1 (by decide) ?_
  refine lv_bipush (v := 7) hx hb dX10_isRoom_2 (by decide) ?_
  refine rdS (As := [.int v, .int 0, .int 7]) (rest := []) ⟨hx, hb, hml, hown, hts⟩ (k_X10_in l dC dI cI cZ cQ v (0 : Int32) (7 : Int32)) (va_cwS 3 hts gX10_isRoom_X10_in rfl rfl rfl (by decide +kernel) ⟨Nat.le_of_ble_eq_true rfl, Nat.le_of_ble_eq_true rfl⟩) hP hK hN [] rfl rfl hl.1 rfl (Nat.le_of_ble_eq_true rfl) dX10_isRoom_4 ⟨Nat.le_of_ble_eq_true rfl, Nat.le_of_ble_eq_true rfl⟩ (fun r1 h2 => ?_)
  have h2 : ((((r1 = 1) ∧ ((0) ≤ v.toInt) ∧ (v.toInt ≤ (7))) ∨ ((r1 = 0) ∧ (v.toInt < (0) ∨ (7) < v.toInt)))) := h2
  rcases h2 with (⟨rfl, h2_a0, h2_a1⟩ | ⟨rfl, h2_a0⟩)
  · exact W.zret (v := 1) hx hb hr (by decide) (fun tq ht hW => ⟨1, rfl, (Or.inl (⟨rfl, (show 0 ≤ v.toInt from by (try rw [show (1 : Int32).toInt = 1 from (show (1 : Int32).toInt = 1 from rfl)]); omega), (show v.toInt ≤ 7 from by (try rw [show (1 : Int32).toInt = 1 from (show (1 : Int32).toInt = 1 from rfl)]); omega)⟩)), ht⟩) (fun q h => by cases h) dX10_isRoom_7
  · exact W.zret (v := 0) hx hb hr (by decide) (fun tq ht hW => ⟨0, rfl, (Or.inr (⟨rfl, (show v.toInt < 0 ∨ 7 < v.toInt from by (try rw [show (0 : Int32).toInt = 0 from (show (0 : Int32).toInt = 0 from rfl)]); omega)⟩)), ht⟩) (fun q h => by cases h) dX10_isRoom_7
set_option maxHeartbeats 4000000 in
set_option maxRecDepth 100000 in
theorem k_X10_isCorner (l : Launch) (dC : Nat → ClassId) (dI : Nat → Nat → Nat) (cI cZ cQ : ClassId) (v : Int32)  : KR l yX10_isCorner wsX10_isCorner { frames := 1, cells := 0, slots := 0, locals := 22 } (dC, dI) (TY cI cZ cQ) (wNil cI cZ cQ) [.int v] (fun r : Int32 => ((((r = 1) ∧ (0 ≤ v.toInt) ∧ (v.toInt ≤ 47)) ∨ ((r = 0) ∧ (v.toInt < 0 ∨ 47 < v.toInt))))) := by
  refine Met.ofW (cc := cX10_isCorner) (maxL := 1) (ret := (some .boolean)) (by decide) rfl ?_
  intro p e s m args below meth c s₁ B hml hv
  obtain ⟨rfl, hP, hK, hN⟩ := hv
  have hx := B.exec
  have hb := B.bytes
  have hr := B.returns
  have hts := atoms_spec (ws := wsX10_isCorner) B.pre
  have hown : s.vm.findClass RX10 = some m.cls := findClass_of_methodNamed B.named
  have hlocks := B.notSynchronized
  have hl := lv_entry ([.int v]) (n := 1) (Nat.le_of_ble_eq_true rfl)
  rw [lg_entry_eq]
  generalize (lg_sl ([.int v]) ++ List.replicate (1 - (lg_sl ([.int v])).length) Slot.unset).toArray = ls at hl ⊢
  have hl : lv_has ls 1 [(0, .int v)] := hl
  refine lv_iload_n hx hb dX10_isCorner_0 rfl (lv_at hl 0 rfl) ?_
  refine lv_iconst (v := 0) hx hb dX10_isCorner_1 (by decide) ?_
  refine lv_bipush (v := 47) hx hb dX10_isCorner_2 (by decide) ?_
  refine rdS (As := [.int v, .int 0, .int 47]) (rest := []) ⟨hx, hb, hml, hown, hts⟩ (k_X10_in l dC dI cI cZ cQ v (0 : Int32) (47 : Int32)) (va_cwS 3 hts gX10_isCorner_X10_in rfl rfl rfl (by decide +kernel) ⟨Nat.le_of_ble_eq_true rfl, Nat.le_of_ble_eq_true rfl⟩) hP hK hN [] rfl rfl hl.1 rfl (Nat.le_of_ble_eq_true rfl) dX10_isCorner_4 ⟨Nat.le_of_ble_eq_true rfl, Nat.le_of_ble_eq_true rfl⟩ (fun r1 h2 => ?_)
  have h2 : ((((r1 = 1) ∧ ((0) ≤ v.toInt) ∧ (v.toInt ≤ (47))) ∨ ((r1 = 0) ∧ (v.toInt < (0) ∨ (47) < v.toInt)))) := h2
  rcases h2 with (⟨rfl, h2_a0, h2_a1⟩ | ⟨rfl, h2_a0⟩)
  · exact W.zret (v := 1) hx hb hr (by decide) (fun tq ht hW => ⟨1, rfl, (Or.inl (⟨rfl, (show 0 ≤ v.toInt from by (try rw [show (1 : Int32).toInt = 1 from (show (1 : Int32).toInt = 1 from rfl)]); omega), (show v.toInt ≤ 47 from by (try rw [show (1 : Int32).toInt = 1 from (show (1 : Int32).toInt = 1 from rfl)]); omega)⟩)), ht⟩) (fun q h => by cases h) dX10_isCorner_7
  · exact W.zret (v := 0) hx hb hr (by decide) (fun tq ht hW => ⟨0, rfl, (Or.inr (⟨rfl, (show v.toInt < 0 ∨ 47 < v.toInt from by (try rw [show (0 : Int32).toInt = 0 from (show (0 : Int32).toInt = 0 from rfl)]); omega)⟩)), ht⟩) (fun q h => by cases h) dX10_isCorner_7
set_option maxHeartbeats 4000000 in
set_option maxRecDepth 100000 in
theorem k_X10_isThing (l : Launch) (dC : Nat → ClassId) (dI : Nat → Nat → Nat) (cI cZ cQ : ClassId) (v : Int32)  : KR l yX10_isThing wsX10_isThing { frames := 1, cells := 0, slots := 0, locals := 22 } (dC, dI) (TY cI cZ cQ) (wNil cI cZ cQ) [.int v] (fun r : Int32 => ((((r = 1) ∧ (0 ≤ v.toInt) ∧ (v.toInt ≤ 23)) ∨ ((r = 0) ∧ (v.toInt < 0 ∨ 23 < v.toInt))))) := by
  refine Met.ofW (cc := cX10_isThing) (maxL := 1) (ret := (some .boolean)) (by decide) rfl ?_
  intro p e s m args below meth c s₁ B hml hv
  obtain ⟨rfl, hP, hK, hN⟩ := hv
  have hx := B.exec
  have hb := B.bytes
  have hr := B.returns
  have hts := atoms_spec (ws := wsX10_isThing) B.pre
  have hown : s.vm.findClass RX10 = some m.cls := findClass_of_methodNamed B.named
  have hlocks := B.notSynchronized
  have hl := lv_entry ([.int v]) (n := 1) (Nat.le_of_ble_eq_true rfl)
  rw [lg_entry_eq]
  generalize (lg_sl ([.int v]) ++ List.replicate (1 - (lg_sl ([.int v])).length) Slot.unset).toArray = ls at hl ⊢
  have hl : lv_has ls 1 [(0, .int v)] := hl
  refine lv_iload_n hx hb dX10_isThing_0 rfl (lv_at hl 0 rfl) ?_
  refine lv_iconst (v := 0) hx hb dX10_isThing_1 (by decide) ?_
  refine lv_bipush (v := 23) hx hb dX10_isThing_2 (by decide) ?_
  refine rdS (As := [.int v, .int 0, .int 23]) (rest := []) ⟨hx, hb, hml, hown, hts⟩ (k_X10_in l dC dI cI cZ cQ v (0 : Int32) (23 : Int32)) (va_cwS 3 hts gX10_isThing_X10_in rfl rfl rfl (by decide +kernel) ⟨Nat.le_of_ble_eq_true rfl, Nat.le_of_ble_eq_true rfl⟩) hP hK hN [] rfl rfl hl.1 rfl (Nat.le_of_ble_eq_true rfl) dX10_isThing_4 ⟨Nat.le_of_ble_eq_true rfl, Nat.le_of_ble_eq_true rfl⟩ (fun r1 h2 => ?_)
  have h2 : ((((r1 = 1) ∧ ((0) ≤ v.toInt) ∧ (v.toInt ≤ (23))) ∨ ((r1 = 0) ∧ (v.toInt < (0) ∨ (23) < v.toInt)))) := h2
  rcases h2 with (⟨rfl, h2_a0, h2_a1⟩ | ⟨rfl, h2_a0⟩)
  · exact W.zret (v := 1) hx hb hr (by decide) (fun tq ht hW => ⟨1, rfl, (Or.inl (⟨rfl, (show 0 ≤ v.toInt from by (try rw [show (1 : Int32).toInt = 1 from (show (1 : Int32).toInt = 1 from rfl)]); omega), (show v.toInt ≤ 23 from by (try rw [show (1 : Int32).toInt = 1 from (show (1 : Int32).toInt = 1 from rfl)]); omega)⟩)), ht⟩) (fun q h => by cases h) dX10_isThing_7
  · exact W.zret (v := 0) hx hb hr (by decide) (fun tq ht hW => ⟨0, rfl, (Or.inr (⟨rfl, (show v.toInt < 0 ∨ 23 < v.toInt from by (try rw [show (0 : Int32).toInt = 0 from (show (0 : Int32).toInt = 0 from rfl)]); omega)⟩)), ht⟩) (fun q h => by cases h) dX10_isThing_7
set_option maxHeartbeats 4000000 in
set_option maxRecDepth 100000 in
theorem k_X10_isPupil (l : Launch) (dC : Nat → ClassId) (dI : Nat → Nat → Nat) (cI cZ cQ : ClassId) (v : Int32)  : KR l yX10_isPupil wsX10_isPupil { frames := 1, cells := 0, slots := 0, locals := 22 } (dC, dI) (TY cI cZ cQ) (wNil cI cZ cQ) [.int v] (fun r : Int32 => ((((r = 1) ∧ (0 ≤ v.toInt) ∧ (v.toInt ≤ 3)) ∨ ((r = 0) ∧ (v.toInt < 0 ∨ 3 < v.toInt))))) := by
  refine Met.ofW (cc := cX10_isPupil) (maxL := 1) (ret := (some .boolean)) (by decide) rfl ?_
  intro p e s m args below meth c s₁ B hml hv
  obtain ⟨rfl, hP, hK, hN⟩ := hv
  have hx := B.exec
  have hb := B.bytes
  have hr := B.returns
  have hts := atoms_spec (ws := wsX10_isPupil) B.pre
  have hown : s.vm.findClass RX10 = some m.cls := findClass_of_methodNamed B.named
  have hlocks := B.notSynchronized
  have hl := lv_entry ([.int v]) (n := 1) (Nat.le_of_ble_eq_true rfl)
  rw [lg_entry_eq]
  generalize (lg_sl ([.int v]) ++ List.replicate (1 - (lg_sl ([.int v])).length) Slot.unset).toArray = ls at hl ⊢
  have hl : lv_has ls 1 [(0, .int v)] := hl
  refine lv_iload_n hx hb dX10_isPupil_0 rfl (lv_at hl 0 rfl) ?_
  refine lv_iconst (v := 0) hx hb dX10_isPupil_1 (by decide) ?_
  refine lv_iconst (v := 3) hx hb dX10_isPupil_2 (by decide) ?_
  refine rdS (As := [.int v, .int 0, .int 3]) (rest := []) ⟨hx, hb, hml, hown, hts⟩ (k_X10_in l dC dI cI cZ cQ v (0 : Int32) (3 : Int32)) (va_cwS 3 hts gX10_isPupil_X10_in rfl rfl rfl (by decide +kernel) ⟨Nat.le_of_ble_eq_true rfl, Nat.le_of_ble_eq_true rfl⟩) hP hK hN [] rfl rfl hl.1 rfl (Nat.le_of_ble_eq_true rfl) dX10_isPupil_3 ⟨Nat.le_of_ble_eq_true rfl, Nat.le_of_ble_eq_true rfl⟩ (fun r1 h2 => ?_)
  have h2 : ((((r1 = 1) ∧ ((0) ≤ v.toInt) ∧ (v.toInt ≤ (3))) ∨ ((r1 = 0) ∧ (v.toInt < (0) ∨ (3) < v.toInt)))) := h2
  rcases h2 with (⟨rfl, h2_a0, h2_a1⟩ | ⟨rfl, h2_a0⟩)
  · exact W.zret (v := 1) hx hb hr (by decide) (fun tq ht hW => ⟨1, rfl, (Or.inl (⟨rfl, (show 0 ≤ v.toInt from by (try rw [show (1 : Int32).toInt = 1 from (show (1 : Int32).toInt = 1 from rfl)]); omega), (show v.toInt ≤ 3 from by (try rw [show (1 : Int32).toInt = 1 from (show (1 : Int32).toInt = 1 from rfl)]); omega)⟩)), ht⟩) (fun q h => by cases h) dX10_isPupil_6
  · exact W.zret (v := 0) hx hb hr (by decide) (fun tq ht hW => ⟨0, rfl, (Or.inr (⟨rfl, (show v.toInt < 0 ∨ 3 < v.toInt from by (try rw [show (0 : Int32).toInt = 0 from (show (0 : Int32).toInt = 0 from rfl)]); omega)⟩)), ht⟩) (fun q h => by cases h) dX10_isPupil_6
set_option maxHeartbeats 4000000 in
set_option maxRecDepth 100000 in
theorem k_X10_likeness (l : Launch) (dC : Nat → ClassId) (dI : Nat → Nat → Nat) (cI cZ cQ : ClassId) (b : Nat → Nat) (mday : Int32) (mdoo : Int32) (mdA : Nat → Int32) (mdB : Nat → Int32) (mfar : Nat → Int32) (mmar : Nat → Int32) (mtel : Int32) (mgai : Int32) (mfal : Nat → Int32) (mtop : Nat → Int32) (mstr : Nat → Int32) (mgho : Nat → Int32) (mfai : Nat → Int32) (mpto : Nat → Int32) (mwal : Nat → Int32) (mahd : Nat → Int32) (mahf : Nat → Int32) (mcho : Nat → Int32) (mbes : Nat → Int32) (mbyt : Int32) (mtxt : Nat → Int32) (mpos : Int32) (mtka : Int32) (mtok : Int64) (mdig : Int32) (mnum : Int32) (mfau : Int32) (mrdm : Int32) (mrea : Nat → Int32) (mlin : Int32) (mlne : Nat → Int32) (mthg : Nat → Int32) (mord : Nat → Int32) (mbor : Nat → Int32) (mbsm : Int32) (mans : Nat → Int32) (mand : Nat → Int32) (manr : Nat → Int32) (mali : Nat → Int32) (one : Int32) (two : Int32) (r_mday : 0 ≤ mday.toInt ∧ mday.toInt ≤ 400) (r_mdoo : 0 ≤ mdoo.toInt ∧ mdoo.toInt ≤ 14) (r_mdA : rg 14 (0) (7) mdA) (r_mdB : rg 14 (0) (7) mdB) (r_mmar : rg 24 (0) (255) mmar) (r_mgai : 0 ≤ mgai.toInt ∧ mgai.toInt ≤ 100) (r_mfal : rg 11 (0) (30) mfal) (r_mtop : rg 48 (-1) (23) mtop) (r_mstr : rg 48 (0) (100) mstr) (r_mgho : rg 48 (-1) (23) mgho) (r_mfai : rg 48 (0) (100) mfai) (r_mahd : rg 240 (0) (100) mahd) (r_mahf : rg 240 (0) (100) mahf) (r_mcho : rg 5 (-1) (9) mcho) (r_mbyt : 0 ≤ mbyt.toInt ∧ mbyt.toInt ≤ 160) (r_mpos : 0 ≤ mpos.toInt ∧ mpos.toInt ≤ 160) (r_mrdm : 0 ≤ mrdm.toInt ∧ mrdm.toInt ≤ 10) (r_mlin : 0 ≤ mlin.toInt ∧ mlin.toInt ≤ 10) (r_mthg : rg 8 (0) (31) mthg) (r_mord : rg 8 (-1) (8) mord) (r_mans : rg 4 (0) (12) mans) (q0 : 0 ≤ one.toInt) (q1 : one.toInt ≤ 23) (q2 : 0 ≤ two.toInt) (q3 : two.toInt ≤ 23) : KR l yX10_likeness wsX10_likeness { frames := 0, cells := 0, slots := 0, locals := 0 } (dC, dI) (TY cI cZ cQ) (wMod cI cZ cQ b mday mdoo mdA mdB mfar mmar mtel mgai mfal mtop mstr mgho mfai mpto mwal mahd mahf mcho mbes mbyt mtxt mpos mtka mtok mdig mnum mfau mrdm mrea mlin mlne mthg mord mbor mbsm mans mand manr mali) [.ref (b 39), .int one, .int two] (fun r : Int32 => (r = bc (mmar one.toNatClampNeg &&& mmar two.toNatClampNeg))) := by
  refine Met.ofW (cc := cX10_likeness) (maxL := 6) (ret := (some .int)) (by decide) rfl ?_
  intro p e s m args below meth c s₁ B hml hv
  obtain ⟨rfl, hP, hK, hN⟩ := hv
  have hx := B.exec
  have hb := B.bytes
  have hr := B.returns
  have hts := atoms_spec (ws := wsX10_likeness) B.pre
  have hown : s.vm.findClass RX10 = some m.cls := findClass_of_methodNamed B.named
  have hlocks := B.notSynchronized
  have lf19 := hts (.fieldLink RX10 19 "PalaceOfRoomsModel" "marks" "[I") (List.mem_cons_of_mem _ (List.mem_append_left _ (List.mem_of_getElem? (i := 0) rfl)))
  have inX10 : ∀ w ∈ wsX100, w ∈ wsX10_likeness := fun w h => List.mem_cons_of_mem _ (List.mem_append_right _ h)
  have hl := lv_entry ([.ref (b 39), .int one, .int two]) (n := 6) (Nat.le_of_ble_eq_true rfl)
  rw [lg_entry_eq]
  generalize (lg_sl ([.ref (b 39), .int one, .int two]) ++ List.replicate (6 - (lg_sl ([.ref (b 39), .int one, .int two])).length) Slot.unset).toArray = ls at hl ⊢
  have hl : lv_has ls 6 [(0, .ref (b 39)), (1, .int one), (2, .int two)] := hl
  refine lv_aload_n hx hb dX10_likeness_0 rfl (lv_at hl 0 rfl) ?_
  refine va_get (D := (dC, dI)) (ci := 10) (v := .ref (b 5)) (C := RX10) (T := TX10) (N := 39) hx hb hts inX10 hown hK hP 0 rfl rfl 5 (by decide) lf19 (fun _ h9 => h9) rfl dX10_likeness_1 ?_
  refine lv_iload_n hx hb dX10_likeness_4 rfl (lv_at hl 1 rfl) ?_
  have b1 : vp_in one 24 := inC rfl (by omega) (by omega)
  refine va_iald hx hb hK hP 4 0 rfl rfl b1 dX10_likeness_5 ?_
  have g2 : 0 ≤ (mmar one.toNatClampNeg).toInt ∧ (mmar one.toNatClampNeg).toInt ≤ 255 := rg_at r_mmar b1
  refine lv_aload_n hx hb dX10_likeness_6 rfl (lv_at hl 0 rfl) ?_
  refine va_get (D := (dC, dI)) (ci := 10) (v := .ref (b 5)) (C := RX10) (T := TX10) (N := 39) hx hb hts inX10 hown hK hP 0 rfl rfl 5 (by decide) lf19 (fun _ h9 => h9) rfl dX10_likeness_7 ?_
  refine lv_iload_n hx hb dX10_likeness_10 rfl (lv_at hl 2 rfl) ?_
  have b3 : vp_in two 24 := inC rfl (by omega) (by omega)
  refine va_iald hx hb hK hP 4 0 rfl rfl b3 dX10_likeness_11 ?_
  have g4 : 0 ≤ (mmar two.toNatClampNeg).toInt ∧ (mmar two.toNatClampNeg).toInt ≤ 255 := rg_at r_mmar b3
  refine lv_iand hx hb dX10_likeness_12 ?_
  refine lv_topi (fun x5 ex5 => ?_)
  have ix5 : x5.toInt = ((mmar one.toNatClampNeg) &&& (mmar two.toNatClampNeg)).toInt := by rw [ex5]
  refine lv_istore_n (lv' := [(3, .int x5), (0, .ref (b 39)), (1, .int one), (2, .int two)]) hx hb dX10_likeness_13 rfl hl (by decide) rfl (fun ls hl => ?_)
  refine lv_iconst (v := 0) hx hb dX10_likeness_14 (by decide) ?_
  refine lv_istore (lv' := [(4, .int 0), (3, .int x5), (0, .ref (b 39)), (1, .int one), (2, .int two)]) hx hb dX10_likeness_15 hl (by decide) rfl (fun ls hl => ?_)
  refine lv_iconst (v := 0) hx hb dX10_likeness_17 (by decide) ?_
  have hbb := andR (a := mmar one.toNatClampNeg) (m := mmar two.toNatClampNeg) rfl (by omega)
  refine lv_istore (lv' := [(5, .int 0), (4, .int 0), (3, .int x5), (0, .ref (b 39)), (1, .int one), (2, .int two)]) hx hb dX10_likeness_18 hl (by decide) rfl (fun ls hl => ?_)
  have L20 : ∀ (nn : Nat) (y20_4 : Int32) (y20_5 : Int32) (ls : Array Slot), (0 ≤ (y20_5.toInt)) → ((y20_5.toInt) ≤ 8) → (y20_4 = ps x5 ((y20_5.toInt)).toNat) → (8 - (y20_5.toInt)).toNat < nn → lv_has ls 6 [(3, .int x5), (4, .int y20_4), (5, .int y20_5)] → W p l e (headSpec wsX10_likeness { frames := 0, cells := 0, slots := 0, locals := 0 }).room s m ([.ref (b 39), .int one, .int two] : List Value).toArray below meth c s.heap [] 0 0 (MQ below (QR (fun r : Int32 => (r = bc (mmar one.toNatClampNeg &&& mmar two.toNatClampNeg)))) ([.ref (b 39), .int one, .int two] : List Value).toArray s 0 0 (fun _ => False)) (F0 m 20 ls []) := by
    intro nn
    induction nn with
    | zero =>
      intro y20_4 y20_5 ls i20_0 i20_1 i20_2 hm
      exact absurd hm (Nat.not_lt_zero _)
    | succ nn ih20 =>
      intro y20_4 y20_5 ls i20_0 i20_1 i20_2 hm hl
      refine lv_iload hx hb dX10_likeness_20 (lv_at hl 2 rfl) ?_
      refine lv_bipush (v := 8) hx hb dX10_likeness_22 (by decide) ?_
      refine lv_icmp_ge (tgt := 44) hx hb dX10_likeness_24 (by decide) (fun c6 => ?_) (fun c6 => ?_)
      · have dc6 : 8 ≤ y20_5.toInt := leC (show (8 : Int32).toInt = 8 from rfl) rfl c6
        refine lv_iload hx hb dX10_likeness_44 (lv_at hl 1 rfl) ?_
        exact W.iret (v := y20_4) hx hb hr (fun tq ht hW => ⟨y20_4, rfl, (show y20_4 = bc (mmar one.toNatClampNeg &&& mmar two.toNatClampNeg) from by (have e8 : y20_5.toInt.toNat = 8 := (by omega); rw [i20_2, e8]; subst_vars; exact ps_all hbb.1 (by omega))), ht⟩) (fun q h => by cases h) dX10_likeness_46
      · have dc6 : y20_5.toInt < 8 := nleC (show (8 : Int32).toInt = 8 from rfl) rfl c6
        refine lv_iload hx hb dX10_likeness_27 (lv_at hl 1 rfl) ?_
        refine lv_iload_n hx hb dX10_likeness_29 rfl (lv_at hl 0 rfl) ?_
        refine lv_iload hx hb dX10_likeness_30 (lv_at hl 2 rfl) ?_
        refine lv_ishr hx hb dX10_likeness_32 ?_
        refine lv_iconst (v := 1) hx hb dX10_likeness_33 (by decide) ?_
        refine lv_iand hx hb dX10_likeness_34 ?_
        have f7 := andR (a := (x5 >>> (y20_5 &&& 31))) (m := 1) (M := 1) rfl (by decide)
        refine lv_iadd hx hb dX10_likeness_35 ?_
        refine lv_topi (fun x8 ex8 => ?_)
        have ix8 : x8.toInt = (y20_4 + ((x5 >>> (y20_5 &&& 31)) &&& 1)).toInt := by rw [ex8]
        refine lv_istore (lv' := [(4, .int x8), (3, .int x5), (5, .int y20_5)]) hx hb dX10_likeness_36 hl (by decide) rfl (fun ls hl => ?_)
        obtain ⟨z9, ez9⟩ : ∃ y : Int32, y = y20_5 + 1 := ⟨_, rfl⟩
        have iz9 : z9.toInt = y20_5.toInt + 1 := by rw [ez9]; exact addC rfl rfl (by omega) (by omega)
        refine lv_iinc (v := z9) (lv' := [(5, .int z9), (4, .int x8), (3, .int x5)]) hx hb dX10_likeness_38 hl (k := 2) rfl (by rw [ez9]; rfl) (by decide) rfl (fun ls hl => ?_)
        refine lv_goto (tgt := 20) hx hb dX10_likeness_41 (by decide) ?_
        exact ih20 x8 z9 _ (by omega) (by omega) (by (first | (subst_vars; rfl) | (subst_vars; rw [ps_step (y := y20_5) (z := y20_5 + 1) (by assumption) (by assumption)]))) (by omega) (lv_sub hl [2, 1, 0] rfl)
  have kc10 : (0 : Int32).toInt = 0 := rfl
  exact L20 _ 0 0 _ (by omega) (by omega) (by (first | (subst_vars; rfl) | (subst_vars; rw [ps_step (y := y20_5) (z := y20_5 + 1) (by assumption) (by assumption)]))) (Nat.lt_succ_self _) (lv_sub hl [2, 1, 0] rfl)
set_option maxHeartbeats 4000000 in
set_option maxRecDepth 100000 in
theorem k_X10_marks (l : Launch) (dC : Nat → ClassId) (dI : Nat → Nat → Nat) (cI cZ cQ : ClassId) (b : Nat → Nat) (mday : Int32) (mdoo : Int32) (mdA : Nat → Int32) (mdB : Nat → Int32) (mfar : Nat → Int32) (mmar : Nat → Int32) (mtel : Int32) (mgai : Int32) (mfal : Nat → Int32) (mtop : Nat → Int32) (mstr : Nat → Int32) (mgho : Nat → Int32) (mfai : Nat → Int32) (mpto : Nat → Int32) (mwal : Nat → Int32) (mahd : Nat → Int32) (mahf : Nat → Int32) (mcho : Nat → Int32) (mbes : Nat → Int32) (mbyt : Int32) (mtxt : Nat → Int32) (mpos : Int32) (mtka : Int32) (mtok : Int64) (mdig : Int32) (mnum : Int32) (mfau : Int32) (mrdm : Int32) (mrea : Nat → Int32) (mlin : Int32) (mlne : Nat → Int32) (mthg : Nat → Int32) (mord : Nat → Int32) (mbor : Nat → Int32) (mbsm : Int32) (mans : Nat → Int32) (mand : Nat → Int32) (manr : Nat → Int32) (mali : Nat → Int32) (sz : Nat) (t : Int32) (mk : Int32) (r_mday : 0 ≤ mday.toInt ∧ mday.toInt ≤ 400) (r_mdoo : 0 ≤ mdoo.toInt ∧ mdoo.toInt ≤ 14) (r_mdA : rg 14 (0) (7) mdA) (r_mdB : rg 14 (0) (7) mdB) (r_mmar : rg 24 (0) (255) mmar) (r_mgai : 0 ≤ mgai.toInt ∧ mgai.toInt ≤ 100) (r_mfal : rg 11 (0) (30) mfal) (r_mtop : rg 48 (-1) (23) mtop) (r_mstr : rg 48 (0) (100) mstr) (r_mgho : rg 48 (-1) (23) mgho) (r_mfai : rg 48 (0) (100) mfai) (r_mahd : rg 240 (0) (100) mahd) (r_mahf : rg 240 (0) (100) mahf) (r_mcho : rg 5 (-1) (9) mcho) (r_mbyt : 0 ≤ mbyt.toInt ∧ mbyt.toInt ≤ 160) (r_mpos : 0 ≤ mpos.toInt ∧ mpos.toInt ≤ 160) (r_mrdm : 0 ≤ mrdm.toInt ∧ mrdm.toInt ≤ 10) (r_mlin : 0 ≤ mlin.toInt ∧ mlin.toInt ≤ 10) (r_mthg : rg 8 (0) (31) mthg) (r_mord : rg 8 (-1) (8) mord) (r_mans : rg 4 (0) (12) mans) : KW l yX10_marks wsX10_marks { frames := 2, cells := 0, slots := 0, locals := 42 } (dC, dI) (TY cI cZ cQ) (wMod cI cZ cQ b mday mdoo mdA mdB mfar mmar mtel mgai mfal mtop mstr mgho mfai mpto mwal mahd mahf mcho mbes mbyt mtxt mpos mtka mtok mdig mnum mfau mrdm mrea mlin mlne mthg mord mbor mbsm mans mand manr mali) [.ref (b 39), .int t, .int mk] sz 0 0 (fun (r : Int32) (u : US) => (spMarks mmar t mk r (u.1 0)) ∧ (rg 24 (0) (255) (u.1 0))) (fun u : US => (wMod cI cZ cQ b mday mdoo mdA mdB mfar (u.1 0) mtel mgai mfal mtop mstr mgho mfai mpto mwal mahd mahf mcho mbes mbyt mtxt mpos mtka mtok mdig mnum mfau mrdm mrea mlin mlne mthg mord mbor mbsm mans mand manr mali)) := by
  refine Met.ofW (cc := cX10_marks) (maxL := 4) (ret := (some .int)) (by decide) rfl ?_
  intro p e s m args below meth c s₁ B hml hv
  obtain ⟨rfl, hsz, hP, hK, hD0, hN⟩ := hv
  have hx := B.exec
  have hb := B.bytes
  have hr := B.returns
  have hts := atoms_spec (ws := wsX10_marks) B.pre
  have hown : s.vm.findClass RX10 = some m.cls := findClass_of_methodNamed B.named
  have hlocks := B.notSynchronized
  have lf19 := hts (.fieldLink RX10 19 "PalaceOfRoomsModel" "marks" "[I") (List.mem_cons_of_mem _ (List.mem_append_left _ (List.mem_of_getElem? (i := 0) rfl)))
  have inX10 : ∀ w ∈ wsX100, w ∈ wsX10_marks := fun w h => List.mem_cons_of_mem _ (List.mem_append_right _ h)
  subst hsz
  have hD := hD0.self (sz := s.heap.size)
  generalize hAe : va_A (wMod cI cZ cQ b mday mdoo mdA mdB mfar mmar mtel mgai mfal mtop mstr mgho mfai mpto mwal mahd mahf mcho mbes mbyt mtxt mpos mtka mtok mdig mnum mfau mrdm mrea mlin mlne mthg mord mbor mbsm mans mand manr mali) s.heap.size = A at hD ⊢
  have hA : ∀ q : Nat, s.heap.size ≤ q → A q := fun q h => by rw [← hAe]; exact Or.inr h
  have hS : va_S A s.heap s.heap [] := va_S.rf
  have hl := lv_entry ([.ref (b 39), .int t, .int mk]) (n := 4) (Nat.le_of_ble_eq_true rfl)
  rw [lg_entry_eq]
  generalize (lg_sl ([.ref (b 39), .int t, .int mk]) ++ List.replicate (4 - (lg_sl ([.ref (b 39), .int t, .int mk])).length) Slot.unset).toArray = ls at hl ⊢
  have hl : lv_has ls 4 [(0, .ref (b 39)), (1, .int t), (2, .int mk)] := hl
  refine lv_iload_n hx hb dX10_marks_0 rfl (lv_at hl 1 rfl) ?_
  refine rdS (As := [.int t]) (rest := []) ⟨hx, hb, hml, hown, hts⟩ (k_X10_isThing l dC dI cI cZ cQ t) (va_cwS 1 hts gX10_marks_X10_isThing rfl rfl rfl (by decide +kernel) ⟨Nat.le_of_ble_eq_true rfl, Nat.le_of_ble_eq_true rfl⟩) hP hK hN [] rfl rfl hl.1 rfl (Nat.le_of_ble_eq_true rfl) dX10_marks_1 ⟨Nat.le_of_ble_eq_true rfl, Nat.le_of_ble_eq_true rfl⟩ (fun r1 h2 => ?_)
  have h2 : ((((r1 = 1) ∧ (0 ≤ t.toInt) ∧ (t.toInt ≤ 23)) ∨ ((r1 = 0) ∧ (t.toInt < 0 ∨ 23 < t.toInt)))) := h2
  rcases h2 with (⟨rfl, h2_a0, h2_a1⟩ | ⟨rfl, h2_a0⟩)
  · refine lv_if_ne (tgt := 10) hx hb dX10_marks_4 (by decide) (fun _ => ?_) (fun c9 => absurd c9 (by decide))
    refine lv_iload_n hx hb dX10_marks_10 rfl (lv_at hl 2 rfl) ?_
    refine lv_iconst (v := 0) hx hb dX10_marks_11 (by decide) ?_
    refine lv_sipush (v := 255) hx hb dX10_marks_12 (by decide) ?_
    refine rdS (As := [.int mk, .int 0, .int 255]) (rest := []) ⟨hx, hb, hml, hown, hts⟩ (k_X10_in l dC dI cI cZ cQ mk (0 : Int32) (255 : Int32)) (va_cwS 3 hts gX10_marks_X10_in rfl rfl rfl (by decide +kernel) ⟨Nat.le_of_ble_eq_true rfl, Nat.le_of_ble_eq_true rfl⟩) hP hK hN [] rfl rfl hl.1 rfl (Nat.le_of_ble_eq_true rfl) dX10_marks_15 ⟨Nat.le_of_ble_eq_true rfl, Nat.le_of_ble_eq_true rfl⟩ (fun r3 h4 => ?_)
    have h4 : ((((r3 = 1) ∧ ((0) ≤ mk.toInt) ∧ (mk.toInt ≤ (255))) ∨ ((r3 = 0) ∧ (mk.toInt < (0) ∨ (255) < mk.toInt)))) := h4
    rcases h4 with (⟨rfl, h4_a0, h4_a1⟩ | ⟨rfl, h4_a0⟩)
    · refine lv_if_ne (tgt := 24) hx hb dX10_marks_18 (by decide) (fun _ => ?_) (fun c9 => absurd c9 (by decide))
      refine lv_aload_n hx hb dX10_marks_24 rfl (lv_at hl 0 rfl) ?_
      refine va_get (D := (dC, dI)) (ci := 10) (v := .ref (b 5)) (C := RX10) (T := TX10) (N := 39) hx hb hts inX10 hown hK hP 0 rfl rfl 5 (by decide) lf19 (fun _ h9 => h9) rfl dX10_marks_25 ?_
      refine lv_iload_n hx hb dX10_marks_28 rfl (lv_at hl 1 rfl) ?_
      have b5 : vp_in t 24 := inC rfl (by omega) (by omega)
      refine va_iald hx hb hK hP 4 0 rfl rfl b5 dX10_marks_29 ?_
      have g6 : 0 ≤ (mmar t.toNatClampNeg).toInt ∧ (mmar t.toNatClampNeg).toInt ≤ 255 := rg_at r_mmar b5
      refine lv_topi (fun x7 ex7 => ?_)
      have ix7 : x7.toInt = (mmar t.toNatClampNeg).toInt := by rw [ex7]
      refine lv_istore_n (lv' := [(3, .int x7), (0, .ref (b 39)), (1, .int t), (2, .int mk)]) hx hb dX10_marks_30 rfl hl (by decide) rfl (fun ls hl => ?_)
      refine lv_aload_n hx hb dX10_marks_31 rfl (lv_at hl 1 rfl) ?_
      refine va_get (D := (dC, dI)) (ci := 10) (v := .ref (b 5)) (C := RX10) (T := TX10) (N := 39) hx hb hts inX10 hown hK hP 0 rfl rfl 5 (by decide) lf19 (fun _ h9 => h9) rfl dX10_marks_32 ?_
      refine lv_iload_n hx hb dX10_marks_35 rfl (lv_at hl 2 rfl) ?_
      refine lv_iload_n hx hb dX10_marks_36 rfl (lv_at hl 3 rfl) ?_
      have b8 : vp_in t 24 := inC rfl (by omega) (by omega)
      have g9 : rg 24 (0) (255) (upd mmar t.toNatClampNeg mk) := rg_upd r_mmar rfl (by omega) (by omega)
      refine va_iast hx hb hK hP hD hS 4 0 rfl rfl b8 dX10_marks_37 (fun H locs hP hD hS => ?_)
      obtain ⟨mmar_u10, emmar_u10⟩ : ∃ f : Nat → Int32, f = upd mmar t.toNatClampNeg mk := ⟨_, rfl⟩
      have rmmar_u10 : rg 24 (0) (255) mmar_u10 := by rw [emmar_u10]; exact g9
      have hP : va_P (dC, dI) vwCl (wMod cI cZ cQ b mday mdoo mdA mdB mfar mmar_u10 mtel mgai mfal mtop mstr mgho mfai mpto mwal mahd mahf mcho mbes mbyt mtxt mpos mtka mtok mdig mnum mfau mrdm mrea mlin mlne mthg mord mbor mbsm mans mand manr mali) H := by rw [emmar_u10]; exact hP
      have hD : va_D A (wMod cI cZ cQ b mday mdoo mdA mdB mfar mmar_u10 mtel mgai mfal mtop mstr mgho mfai mpto mwal mahd mahf mcho mbes mbyt mtxt mpos mtka mtok mdig mnum mfau mrdm mrea mlin mlne mthg mord mbor mbsm mans mand manr mali) := by rw [emmar_u10]; exact hD
      refine lv_iload_n hx hb dX10_marks_38 rfl (lv_at hl 0 rfl) ?_
      exact W.iret (v := x7) hx hb hr (fun tq ht hW => ⟨⟨x7, (uS [mmar_u10] 0 (fun _ => 0)), rfl, ⟨(show spMarks mmar t mk x7 mmar_u10 from by (unfold spMarks; subst_vars; first | exact Or.inl (⟨by omega, rfl, rfl⟩) | exact Or.inr (Or.inl (⟨by omega, by omega, rfl, rfl⟩)) | exact Or.inr (Or.inr (⟨by omega, by omega, rfl, rfl⟩)))), rmmar_u10⟩, by rw [ht]; exact hP, hD⟩, hS.F ht⟩) hS.2.2 dX10_marks_39
    · refine lv_if_ne (tgt := 24) hx hb dX10_marks_18 (by decide) (fun c9 => absurd (by decide) c9) (fun _ => ?_)
      refine lv_bipush (v := (-3)) hx hb dX10_marks_21 (by decide) ?_
      exact W.iret (v := (-3)) hx hb hr (fun tq ht hW => ⟨⟨(-3), (uS [mmar] 0 (fun _ => 0)), rfl, ⟨(show spMarks mmar t mk ((-3) : Int32) mmar from by (try rw [show ((-3) : Int32).toInt = (-3) from (show ((-3) : Int32).toInt = (-3) from rfl)]); (unfold spMarks; subst_vars; first | exact Or.inl (⟨by omega, rfl, rfl⟩) | exact Or.inr (Or.inl (⟨by omega, by omega, rfl, rfl⟩)) | exact Or.inr (Or.inr (⟨by omega, by omega, rfl, rfl⟩)))), r_mmar⟩, by rw [ht]; exact hP, hD⟩, hS.F ht⟩) hS.2.2 dX10_marks_23
  · refine lv_if_ne (tgt := 10) hx hb dX10_marks_4 (by decide) (fun c9 => absurd (by decide) c9) (fun _ => ?_)
    refine lv_bipush (v := (-2)) hx hb dX10_marks_7 (by decide) ?_
    exact W.iret (v := (-2)) hx hb hr (fun tq ht hW => ⟨⟨(-2), (uS [mmar] 0 (fun _ => 0)), rfl, ⟨(show spMarks mmar t mk ((-2) : Int32) mmar from by (try rw [show ((-2) : Int32).toInt = (-2) from (show ((-2) : Int32).toInt = (-2) from rfl)]); (unfold spMarks; subst_vars; first | exact Or.inl (⟨by omega, rfl, rfl⟩) | exact Or.inr (Or.inl (⟨by omega, by omega, rfl, rfl⟩)) | exact Or.inr (Or.inr (⟨by omega, by omega, rfl, rfl⟩)))), r_mmar⟩, by rw [ht]; exact hP, hD⟩, hS.F ht⟩) hS.2.2 dX10_marks_9
set_option maxHeartbeats 4000000 in
set_option maxRecDepth 100000 in
theorem k_X10_like (l : Launch) (dC : Nat → ClassId) (dI : Nat → Nat → Nat) (cI cZ cQ : ClassId) (b : Nat → Nat) (mday : Int32) (mdoo : Int32) (mdA : Nat → Int32) (mdB : Nat → Int32) (mfar : Nat → Int32) (mmar : Nat → Int32) (mtel : Int32) (mgai : Int32) (mfal : Nat → Int32) (mtop : Nat → Int32) (mstr : Nat → Int32) (mgho : Nat → Int32) (mfai : Nat → Int32) (mpto : Nat → Int32) (mwal : Nat → Int32) (mahd : Nat → Int32) (mahf : Nat → Int32) (mcho : Nat → Int32) (mbes : Nat → Int32) (mbyt : Int32) (mtxt : Nat → Int32) (mpos : Int32) (mtka : Int32) (mtok : Int64) (mdig : Int32) (mnum : Int32) (mfau : Int32) (mrdm : Int32) (mrea : Nat → Int32) (mlin : Int32) (mlne : Nat → Int32) (mthg : Nat → Int32) (mord : Nat → Int32) (mbor : Nat → Int32) (mbsm : Int32) (mans : Nat → Int32) (mand : Nat → Int32) (manr : Nat → Int32) (mali : Nat → Int32) (x : Int32) (y : Int32) (r_mday : 0 ≤ mday.toInt ∧ mday.toInt ≤ 400) (r_mdoo : 0 ≤ mdoo.toInt ∧ mdoo.toInt ≤ 14) (r_mdA : rg 14 (0) (7) mdA) (r_mdB : rg 14 (0) (7) mdB) (r_mmar : rg 24 (0) (255) mmar) (r_mgai : 0 ≤ mgai.toInt ∧ mgai.toInt ≤ 100) (r_mfal : rg 11 (0) (30) mfal) (r_mtop : rg 48 (-1) (23) mtop) (r_mstr : rg 48 (0) (100) mstr) (r_mgho : rg 48 (-1) (23) mgho) (r_mfai : rg 48 (0) (100) mfai) (r_mahd : rg 240 (0) (100) mahd) (r_mahf : rg 240 (0) (100) mahf) (r_mcho : rg 5 (-1) (9) mcho) (r_mbyt : 0 ≤ mbyt.toInt ∧ mbyt.toInt ≤ 160) (r_mpos : 0 ≤ mpos.toInt ∧ mpos.toInt ≤ 160) (r_mrdm : 0 ≤ mrdm.toInt ∧ mrdm.toInt ≤ 10) (r_mlin : 0 ≤ mlin.toInt ∧ mlin.toInt ≤ 10) (r_mthg : rg 8 (0) (31) mthg) (r_mord : rg 8 (-1) (8) mord) (r_mans : rg 4 (0) (12) mans) : KR l yX10_like wsX10_like { frames := 2, cells := 0, slots := 0, locals := 42 } (dC, dI) (TY cI cZ cQ) (wMod cI cZ cQ b mday mdoo mdA mdB mfar mmar mtel mgai mfal mtop mstr mgho mfai mpto mwal mahd mahf mcho mbes mbyt mtxt mpos mtka mtok mdig mnum mfau mrdm mrea mlin mlne mthg mord mbor mbsm mans mand manr mali) [.ref (b 39), .int x, .int y] (fun r : Int32 => (spLike mmar x y r)) := by
  refine Met.ofW (cc := cX10_like) (maxL := 3) (ret := (some .int)) (by decide) rfl ?_
  intro p e s m args below meth c s₁ B hml hv
  obtain ⟨rfl, hP, hK, hN⟩ := hv
  have hx := B.exec
  have hb := B.bytes
  have hr := B.returns
  have hts := atoms_spec (ws := wsX10_like) B.pre
  have hown : s.vm.findClass RX10 = some m.cls := findClass_of_methodNamed B.named
  have hlocks := B.notSynchronized
  have hl := lv_entry ([.ref (b 39), .int x, .int y]) (n := 3) (Nat.le_of_ble_eq_true rfl)
  rw [lg_entry_eq]
  generalize (lg_sl ([.ref (b 39), .int x, .int y]) ++ List.replicate (3 - (lg_sl ([.ref (b 39), .int x, .int y])).length) Slot.unset).toArray = ls at hl ⊢
  have hl : lv_has ls 3 [(0, .ref (b 39)), (1, .int x), (2, .int y)] := hl
  refine lv_iload_n hx hb dX10_like_0 rfl (lv_at hl 1 rfl) ?_
  refine rdS (As := [.int x]) (rest := []) ⟨hx, hb, hml, hown, hts⟩ (k_X10_isThing l dC dI cI cZ cQ x) (va_cwS 1 hts gX10_like_X10_isThing rfl rfl rfl (by decide +kernel) ⟨Nat.le_of_ble_eq_true rfl, Nat.le_of_ble_eq_true rfl⟩) hP hK hN [] rfl rfl hl.1 rfl (Nat.le_of_ble_eq_true rfl) dX10_like_1 ⟨Nat.le_of_ble_eq_true rfl, Nat.le_of_ble_eq_true rfl⟩ (fun r1 h2 => ?_)
  have h2 : ((((r1 = 1) ∧ (0 ≤ x.toInt) ∧ (x.toInt ≤ 23)) ∨ ((r1 = 0) ∧ (x.toInt < 0 ∨ 23 < x.toInt)))) := h2
  rcases h2 with (⟨rfl, h2_a0, h2_a1⟩ | ⟨rfl, h2_a0⟩)
  · refine lv_if_eq (tgt := 23) hx hb dX10_like_4 (by decide) (fun c9 => absurd c9 (by decide)) (fun _ => ?_)
    refine lv_iload_n hx hb dX10_like_7 rfl (lv_at hl 2 rfl) ?_
    refine rdS (As := [.int y]) (rest := []) ⟨hx, hb, hml, hown, hts⟩ (k_X10_isThing l dC dI cI cZ cQ y) (va_cwS 1 hts gX10_like_X10_isThing rfl rfl rfl (by decide +kernel) ⟨Nat.le_of_ble_eq_true rfl, Nat.le_of_ble_eq_true rfl⟩) hP hK hN [] rfl rfl hl.1 rfl (Nat.le_of_ble_eq_true rfl) dX10_like_8 ⟨Nat.le_of_ble_eq_true rfl, Nat.le_of_ble_eq_true rfl⟩ (fun r3 h4 => ?_)
    have h4 : ((((r3 = 1) ∧ (0 ≤ y.toInt) ∧ (y.toInt ≤ 23)) ∨ ((r3 = 0) ∧ (y.toInt < 0 ∨ 23 < y.toInt)))) := h4
    rcases h4 with (⟨rfl, h4_a0, h4_a1⟩ | ⟨rfl, h4_a0⟩)
    · refine lv_if_eq (tgt := 23) hx hb dX10_like_11 (by decide) (fun c9 => absurd c9 (by decide)) (fun _ => ?_)
      refine lv_aload_n hx hb dX10_like_14 rfl (lv_at hl 0 rfl) ?_
      refine lv_iload_n hx hb dX10_like_15 rfl (lv_at hl 1 rfl) ?_
      refine lv_iload_n hx hb dX10_like_16 rfl (lv_at hl 2 rfl) ?_
      refine rdV (As := [.int x, .int y]) (rest := []) ⟨hx, hb, hml, hown, hts⟩ (k_X10_likeness l dC dI cI cZ cQ b mday mdoo mdA mdB mfar mmar mtel mgai mfal mtop mstr mgho mfai mpto mwal mahd mahf mcho mbes mbyt mtxt mpos mtka mtok mdig mnum mfau mrdm mrea mlin mlne mthg mord mbor mbsm mans mand manr mali x y r_mday r_mdoo r_mdA r_mdB r_mmar r_mgai r_mfal r_mtop r_mstr r_mgho r_mfai r_mahd r_mahf r_mcho r_mbyt r_mpos r_mrdm r_mlin r_mthg r_mord r_mans (by omega) (by omega) (by omega) (by omega)) (cwV 2 hts gX10_like_X10_likeness rfl rfl rfl (by decide +kernel) ⟨Nat.le_of_ble_eq_true rfl, Nat.le_of_ble_eq_true rfl⟩) hP hK hN [0, 1, 2, 3, 4, 5, 6, 7, 8, 9, 10, 11, 12, 13, 14, 15, 16, 17, 18, 19, 20, 21, 22, 23, 24, 25] rfl 0 10 rfl rfl rfl hl.1 rfl (Nat.le_of_ble_eq_true rfl) dX10_like_17 ⟨Nat.le_of_ble_eq_true rfl, Nat.le_of_ble_eq_true rfl⟩ (fun r5 h6 => ?_)
      have h6 : (r5 = bc (mmar x.toNatClampNeg &&& mmar y.toNatClampNeg)) := h6
      have h6_0 := h6
      refine lv_goto (tgt := 25) hx hb dX10_like_20 (by decide) ?_
      exact W.iret (v := r5) hx hb hr (fun tq ht hW => ⟨r5, rfl, (show spLike mmar x y r5 from by (unfold spLike; subst_vars; first | exact Or.inl (⟨by omega, by omega, by assumption⟩) | exact Or.inr (⟨by omega, rfl⟩))), ht⟩) (fun q h => by cases h) dX10_like_25
    · refine lv_if_eq (tgt := 23) hx hb dX10_like_11 (by decide) (fun _ => ?_) (fun c9 => absurd (by decide) c9)
      refine lv_bipush (v := (-2)) hx hb dX10_like_23 (by decide) ?_
      exact W.iret (v := (-2)) hx hb hr (fun tq ht hW => ⟨(-2), rfl, (show spLike mmar x y ((-2) : Int32) from by (try rw [show ((-2) : Int32).toInt = (-2) from (show ((-2) : Int32).toInt = (-2) from rfl)]); (unfold spLike; subst_vars; first | exact Or.inl (⟨by omega, by omega, by assumption⟩) | exact Or.inr (⟨by omega, rfl⟩))), ht⟩) (fun q h => by cases h) dX10_like_25
  · refine lv_if_eq (tgt := 23) hx hb dX10_like_4 (by decide) (fun _ => ?_) (fun c9 => absurd (by decide) c9)
    refine lv_bipush (v := (-2)) hx hb dX10_like_23 (by decide) ?_
    exact W.iret (v := (-2)) hx hb hr (fun tq ht hW => ⟨(-2), rfl, (show spLike mmar x y ((-2) : Int32) from by (try rw [show ((-2) : Int32).toInt = (-2) from (show ((-2) : Int32).toInt = (-2) from rfl)]); (unfold spLike; subst_vars; first | exact Or.inl (⟨by omega, by omega, by assumption⟩) | exact Or.inr (⟨by omega, rfl⟩))), ht⟩) (fun q h => by cases h) dX10_like_25
set_option maxHeartbeats 4000000 in
set_option maxRecDepth 100000 in
theorem k_X10_set (l : Launch) (dC : Nat → ClassId) (dI : Nat → Nat → Nat) (cI cZ cQ : ClassId) (b : Nat → Nat) (mday : Int32) (mdoo : Int32) (mdA : Nat → Int32) (mdB : Nat → Int32) (mfar : Nat → Int32) (mmar : Nat → Int32) (mtel : Int32) (mgai : Int32) (mfal : Nat → Int32) (mtop : Nat → Int32) (mstr : Nat → Int32) (mgho : Nat → Int32) (mfai : Nat → Int32) (mpto : Nat → Int32) (mwal : Nat → Int32) (mahd : Nat → Int32) (mahf : Nat → Int32) (mcho : Nat → Int32) (mbes : Nat → Int32) (mbyt : Int32) (mtxt : Nat → Int32) (mpos : Int32) (mtka : Int32) (mtok : Int64) (mdig : Int32) (mnum : Int32) (mfau : Int32) (mrdm : Int32) (mrea : Nat → Int32) (mlin : Int32) (mlne : Nat → Int32) (mthg : Nat → Int32) (mord : Nat → Int32) (mbor : Nat → Int32) (mbsm : Int32) (mans : Nat → Int32) (mand : Nat → Int32) (manr : Nat → Int32) (mali : Nat → Int32) (sz : Nat) (wh : Int32) (v : Int32) (r_mday : 0 ≤ mday.toInt ∧ mday.toInt ≤ 400) (r_mdoo : 0 ≤ mdoo.toInt ∧ mdoo.toInt ≤ 14) (r_mdA : rg 14 (0) (7) mdA) (r_mdB : rg 14 (0) (7) mdB) (r_mmar : rg 24 (0) (255) mmar) (r_mgai : 0 ≤ mgai.toInt ∧ mgai.toInt ≤ 100) (r_mfal : rg 11 (0) (30) mfal) (r_mtop : rg 48 (-1) (23) mtop) (r_mstr : rg 48 (0) (100) mstr) (r_mgho : rg 48 (-1) (23) mgho) (r_mfai : rg 48 (0) (100) mfai) (r_mahd : rg 240 (0) (100) mahd) (r_mahf : rg 240 (0) (100) mahf) (r_mcho : rg 5 (-1) (9) mcho) (r_mbyt : 0 ≤ mbyt.toInt ∧ mbyt.toInt ≤ 160) (r_mpos : 0 ≤ mpos.toInt ∧ mpos.toInt ≤ 160) (r_mrdm : 0 ≤ mrdm.toInt ∧ mrdm.toInt ≤ 10) (r_mlin : 0 ≤ mlin.toInt ∧ mlin.toInt ≤ 10) (r_mthg : rg 8 (0) (31) mthg) (r_mord : rg 8 (-1) (8) mord) (r_mans : rg 4 (0) (12) mans) : KW l yX10_set wsX10_set { frames := 1, cells := 0, slots := 0, locals := 22 } (dC, dI) (TY cI cZ cQ) (wMod cI cZ cQ b mday mdoo mdA mdB mfar mmar mtel mgai mfal mtop mstr mgho mfai mpto mwal mahd mahf mcho mbes mbyt mtxt mpos mtka mtok mdig mnum mfau mrdm mrea mlin mlne mthg mord mbor mbsm mans mand manr mali) [.ref (b 39), .int wh, .int v] sz 0 0 (fun (r : Int32) (u : US) => (spSet mtel mgai wh v r (u.1 0 0) (u.1 1 0)) ∧ (0 ≤ (u.1 1 0).toInt ∧ (u.1 1 0).toInt ≤ 100)) (fun u : US => (wMod cI cZ cQ b mday mdoo mdA mdB mfar mmar (u.1 0 0) (u.1 1 0) mfal mtop mstr mgho mfai mpto mwal mahd mahf mcho mbes mbyt mtxt mpos mtka mtok mdig mnum mfau mrdm mrea mlin mlne mthg mord mbor mbsm mans mand manr mali)) := by
  refine Met.ofW (cc := cX10_set) (maxL := 4) (ret := (some .int)) (by decide) rfl ?_
  intro p e s m args below meth c s₁ B hml hv
  obtain ⟨rfl, hsz, hP, hK, hD0, hN⟩ := hv
  have hx := B.exec
  have hb := B.bytes
  have hr := B.returns
  have hts := atoms_spec (ws := wsX10_set) B.pre
  have hown : s.vm.findClass RX10 = some m.cls := findClass_of_methodNamed B.named
  have hlocks := B.notSynchronized
  have lf26 := hts (.fieldLink RX10 26 "PalaceOfRoomsModel" "gain" "I") (List.mem_cons_of_mem _ (List.mem_append_left _ (List.mem_of_getElem? (i := 1) rfl)))
  have inX10 : ∀ w ∈ wsX100, w ∈ wsX10_set := fun w h => List.mem_cons_of_mem _ (List.mem_append_right _ h)
  have lf22 := hts (.fieldLink RX10 22 "PalaceOfRoomsModel" "tell" "I") (List.mem_cons_of_mem _ (List.mem_append_left _ (List.mem_of_getElem? (i := 0) rfl)))
  subst hsz
  have hD := hD0.self (sz := s.heap.size)
  generalize hAe : va_A (wMod cI cZ cQ b mday mdoo mdA mdB mfar mmar mtel mgai mfal mtop mstr mgho mfai mpto mwal mahd mahf mcho mbes mbyt mtxt mpos mtka mtok mdig mnum mfau mrdm mrea mlin mlne mthg mord mbor mbsm mans mand manr mali) s.heap.size = A at hD ⊢
  have hA : ∀ q : Nat, s.heap.size ≤ q → A q := fun q h => by rw [← hAe]; exact Or.inr h
  have hS : va_S A s.heap s.heap [] := va_S.rf
  have hl := lv_entry ([.ref (b 39), .int wh, .int v]) (n := 4) (Nat.le_of_ble_eq_true rfl)
  rw [lg_entry_eq]
  generalize (lg_sl ([.ref (b 39), .int wh, .int v]) ++ List.replicate (4 - (lg_sl ([.ref (b 39), .int wh, .int v])).length) Slot.unset).toArray = ls at hl ⊢
  have hl : lv_has ls 4 [(0, .ref (b 39)), (1, .int wh), (2, .int v)] := hl
  refine lv_iload_n hx hb dX10_set_0 rfl (lv_at hl 1 rfl) ?_
  refine lv_if_ne (tgt := 26) hx hb dX10_set_1 (by decide) (fun c1 => ?_) (fun c1 => ?_)
  · have dc1 : wh.toInt ≠ 0 := neC rfl (show (0 : Int32).toInt = 0 from rfl) c1
    refine lv_iload_n hx hb dX10_set_26 rfl (lv_at hl 1 rfl) ?_
    refine lv_iconst (v := 1) hx hb dX10_set_27 (by decide) ?_
    refine lv_icmp_ne (tgt := 53) hx hb dX10_set_28 (by decide) (fun c2 => ?_) (fun c2 => ?_)
    · have dc2 : wh.toInt ≠ 1 := neC rfl (show (1 : Int32).toInt = 1 from rfl) c2
      refine lv_bipush (v := (-3)) hx hb dX10_set_53 (by decide) ?_
      exact W.iret (v := (-3)) hx hb hr (fun tq ht hW => ⟨⟨(-3), (uS [(fun _ => mtel), (fun _ => mgai)] 0 (fun _ => 0)), rfl, ⟨(show spSet mtel mgai wh v ((-3) : Int32) mtel mgai from by (try rw [show ((-3) : Int32).toInt = (-3) from (show ((-3) : Int32).toInt = (-3) from rfl)]); (unfold spSet; subst_vars; first | exact Or.inl ⟨rfl, by omega, rfl, rfl, rfl⟩ | exact Or.inr (Or.inl ⟨rfl, by omega, rfl, rfl, rfl⟩) | exact Or.inr (Or.inr ⟨by (first | (intro hh; omega) | (intro hh; simp_all)), by (first | (intro hh; omega) | (intro hh; simp_all)), rfl, rfl, rfl⟩) | exact Or.inr (Or.inr ⟨fun hh => by (first | omega | exact absurd hh.1 (by assumption) | exact absurd hh.1 (by decide)), fun hh => by (first | omega | exact absurd hh.1 (by assumption) | exact absurd hh.1 (by decide)), rfl, rfl, rfl⟩))), r_mgai⟩, by rw [ht]; exact hP, hD⟩, hS.F ht⟩) hS.2.2 dX10_set_55
    · have dc2 : wh.toInt = 1 := eqC rfl (show (1 : Int32).toInt = 1 from rfl) c2
      refine lv_iload_n hx hb dX10_set_31 rfl (lv_at hl 2 rfl) ?_
      refine lv_iconst (v := 0) hx hb dX10_set_32 (by decide) ?_
      refine lv_bipush (v := 100) hx hb dX10_set_33 (by decide) ?_
      refine rdS (As := [.int v, .int 0, .int 100]) (rest := []) ⟨hx, hb, hml, hown, hts⟩ (k_X10_in l dC dI cI cZ cQ v (0 : Int32) (100 : Int32)) (va_cwS 3 hts gX10_set_X10_in rfl rfl rfl (by decide +kernel) ⟨Nat.le_of_ble_eq_true rfl, Nat.le_of_ble_eq_true rfl⟩) hP hK hN [] rfl rfl hl.1 rfl (Nat.le_of_ble_eq_true rfl) dX10_set_35 ⟨Nat.le_of_ble_eq_true rfl, Nat.le_of_ble_eq_true rfl⟩ (fun r3 h4 => ?_)
      have h4 : ((((r3 = 1) ∧ ((0) ≤ v.toInt) ∧ (v.toInt ≤ (100))) ∨ ((r3 = 0) ∧ (v.toInt < (0) ∨ (100) < v.toInt)))) := h4
      rcases h4 with (⟨rfl, h4_a0, h4_a1⟩ | ⟨rfl, h4_a0⟩)
      · refine lv_if_eq (tgt := 53) hx hb dX10_set_38 (by decide) (fun c9 => absurd c9 (by decide)) (fun _ => ?_)
        refine lv_aload_n hx hb dX10_set_41 rfl (lv_at hl 0 rfl) ?_
        refine va_get (D := (dC, dI)) (ci := 10) (v := .int mgai) (C := RX10) (T := TX10) (N := 39) hx hb hts inX10 hown hK hP 0 rfl rfl 7 (by decide) lf26 (fun _ h9 => h9) rfl dX10_set_42 ?_
        refine lv_istore_n (lv' := [(3, .int mgai), (0, .ref (b 39)), (1, .int wh), (2, .int v)]) hx hb dX10_set_45 rfl hl (by decide) rfl (fun ls hl => ?_)
        refine lv_aload_n hx hb dX10_set_46 rfl (lv_at hl 1 rfl) ?_
        refine lv_iload_n hx hb dX10_set_47 rfl (lv_at hl 3 rfl) ?_
        refine va_put (D := (dC, dI)) (ci := 10) (v := .int v) (ty := .int) (C := RX10) (T := TX10) (N := 39) hx hb hts inX10 tyX10 tyX10_ok nmX10 hown hK hP hD hS 0 rfl rfl 7 (by decide) lf26 (fun _ h9 => h9) rfl (by decide +kernel) rfl rfl (Nat.le_of_ble_eq_true rfl) dX10_set_48 (fun H locs hP hD hS => ?_)
        have g5 : 0 ≤ v.toInt ∧ v.toInt ≤ 100 := by rw [show v.toInt = v.toInt from rfl]; exact ⟨by omega, by omega⟩
        have hP : va_P (dC, dI) vwCl (wMod cI cZ cQ b mday mdoo mdA mdB mfar mmar mtel v mfal mtop mstr mgho mfai mpto mwal mahd mahf mcho mbes mbyt mtxt mpos mtka mtok mdig mnum mfau mrdm mrea mlin mlne mthg mord mbor mbsm mans mand manr mali) H := hP
        have hD : va_D A (wMod cI cZ cQ b mday mdoo mdA mdB mfar mmar mtel v mfal mtop mstr mgho mfai mpto mwal mahd mahf mcho mbes mbyt mtxt mpos mtka mtok mdig mnum mfau mrdm mrea mlin mlne mthg mord mbor mbsm mans mand manr mali) := hD
        refine lv_iload_n hx hb dX10_set_51 rfl (lv_at hl 0 rfl) ?_
        exact W.iret (v := mgai) hx hb hr (fun tq ht hW => ⟨⟨mgai, (uS [(fun _ => mtel), (fun _ => v)] 0 (fun _ => 0)), rfl, ⟨(show spSet mtel mgai wh v mgai mtel v from by (unfold spSet; subst_vars; first | exact Or.inl ⟨rfl, by omega, rfl, rfl, rfl⟩ | exact Or.inr (Or.inl ⟨rfl, by omega, rfl, rfl, rfl⟩) | exact Or.inr (Or.inr ⟨by (first | (intro hh; omega) | (intro hh; simp_all)), by (first | (intro hh; omega) | (intro hh; simp_all)), rfl, rfl, rfl⟩) | exact Or.inr (Or.inr ⟨fun hh => by (first | omega | exact absurd hh.1 (by assumption) | exact absurd hh.1 (by decide)), fun hh => by (first | omega | exact absurd hh.1 (by assumption) | exact absurd hh.1 (by decide)), rfl, rfl, rfl⟩))), g5⟩, by rw [ht]; exact hP, hD⟩, hS.F ht⟩) hS.2.2 dX10_set_52
      · refine lv_if_eq (tgt := 53) hx hb dX10_set_38 (by decide) (fun _ => ?_) (fun c9 => absurd (by decide) c9)
        refine lv_bipush (v := (-3)) hx hb dX10_set_53 (by decide) ?_
        exact W.iret (v := (-3)) hx hb hr (fun tq ht hW => ⟨⟨(-3), (uS [(fun _ => mtel), (fun _ => mgai)] 0 (fun _ => 0)), rfl, ⟨(show spSet mtel mgai wh v ((-3) : Int32) mtel mgai from by (try rw [show ((-3) : Int32).toInt = (-3) from (show ((-3) : Int32).toInt = (-3) from rfl)]); (unfold spSet; subst_vars; first | exact Or.inl ⟨rfl, by omega, rfl, rfl, rfl⟩ | exact Or.inr (Or.inl ⟨rfl, by omega, rfl, rfl, rfl⟩) | exact Or.inr (Or.inr ⟨by (first | (intro hh; omega) | (intro hh; simp_all)), by (first | (intro hh; omega) | (intro hh; simp_all)), rfl, rfl, rfl⟩) | exact Or.inr (Or.inr ⟨fun hh => by (first | omega | exact absurd hh.1 (by assumption) | exact absurd hh.1 (by decide)), fun hh => by (first | omega | exact absurd hh.1 (by assumption) | exact absurd hh.1 (by decide)), rfl, rfl, rfl⟩))), r_mgai⟩, by rw [ht]; exact hP, hD⟩, hS.F ht⟩) hS.2.2 dX10_set_55
  · have dc1 : wh.toInt = 0 := eqC rfl (show (0 : Int32).toInt = 0 from rfl) c1
    refine lv_iload_n hx hb dX10_set_4 rfl (lv_at hl 2 rfl) ?_
    refine lv_iconst (v := 1) hx hb dX10_set_5 (by decide) ?_
    refine lv_bipush (v := 8) hx hb dX10_set_6 (by decide) ?_
    refine rdS (As := [.int v, .int 1, .int 8]) (rest := []) ⟨hx, hb, hml, hown, hts⟩ (k_X10_in l dC dI cI cZ cQ v (1 : Int32) (8 : Int32)) (va_cwS 3 hts gX10_set_X10_in rfl rfl rfl (by decide +kernel) ⟨Nat.le_of_ble_eq_true rfl, Nat.le_of_ble_eq_true rfl⟩) hP hK hN [] rfl rfl hl.1 rfl (Nat.le_of_ble_eq_true rfl) dX10_set_8 ⟨Nat.le_of_ble_eq_true rfl, Nat.le_of_ble_eq_true rfl⟩ (fun r6 h7 => ?_)
    have h7 : ((((r6 = 1) ∧ ((1) ≤ v.toInt) ∧ (v.toInt ≤ (8))) ∨ ((r6 = 0) ∧ (v.toInt < (1) ∨ (8) < v.toInt)))) := h7
    rcases h7 with (⟨rfl, h7_a0, h7_a1⟩ | ⟨rfl, h7_a0⟩)
    · refine lv_if_eq (tgt := 26) hx hb dX10_set_11 (by decide) (fun c9 => absurd c9 (by decide)) (fun _ => ?_)
      refine lv_aload_n hx hb dX10_set_14 rfl (lv_at hl 0 rfl) ?_
      refine va_get (D := (dC, dI)) (ci := 10) (v := .int mtel) (C := RX10) (T := TX10) (N := 39) hx hb hts inX10 hown hK hP 0 rfl rfl 6 (by decide) lf22 (fun _ h9 => h9) rfl dX10_set_15 ?_
      refine lv_istore_n (lv' := [(3, .int mtel), (0, .ref (b 39)), (1, .int wh), (2, .int v)]) hx hb dX10_set_18 rfl hl (by decide) rfl (fun ls hl => ?_)
      refine lv_aload_n hx hb dX10_set_19 rfl (lv_at hl 1 rfl) ?_
      refine lv_iload_n hx hb dX10_set_20 rfl (lv_at hl 3 rfl) ?_
      refine va_put (D := (dC, dI)) (ci := 10) (v := .int v) (ty := .int) (C := RX10) (T := TX10) (N := 39) hx hb hts inX10 tyX10 tyX10_ok nmX10 hown hK hP hD hS 0 rfl rfl 6 (by decide) lf22 (fun _ h9 => h9) rfl (by decide +kernel) rfl rfl (Nat.le_of_ble_eq_true rfl) dX10_set_21 (fun H locs hP hD hS => ?_)
      have hP : va_P (dC, dI) vwCl (wMod cI cZ cQ b mday mdoo mdA mdB mfar mmar v mgai mfal mtop mstr mgho mfai mpto mwal mahd mahf mcho mbes mbyt mtxt mpos mtka mtok mdig mnum mfau mrdm mrea mlin mlne mthg mord mbor mbsm mans mand manr mali) H := hP
      have hD : va_D A (wMod cI cZ cQ b mday mdoo mdA mdB mfar mmar v mgai mfal mtop mstr mgho mfai mpto mwal mahd mahf mcho mbes mbyt mtxt mpos mtka mtok mdig mnum mfau mrdm mrea mlin mlne mthg mord mbor mbsm mans mand manr mali) := hD
      refine lv_iload_n hx hb dX10_set_24 rfl (lv_at hl 0 rfl) ?_
      exact W.iret (v := mtel) hx hb hr (fun tq ht hW => ⟨⟨mtel, (uS [(fun _ => v), (fun _ => mgai)] 0 (fun _ => 0)), rfl, ⟨(show spSet mtel mgai wh v mtel v mgai from by (unfold spSet; subst_vars; first | exact Or.inl ⟨rfl, by omega, rfl, rfl, rfl⟩ | exact Or.inr (Or.inl ⟨rfl, by omega, rfl, rfl, rfl⟩) | exact Or.inr (Or.inr ⟨by (first | (intro hh; omega) | (intro hh; simp_all)), by (first | (intro hh; omega) | (intro hh; simp_all)), rfl, rfl, rfl⟩) | exact Or.inr (Or.inr ⟨fun hh => by (first | omega | exact absurd hh.1 (by assumption) | exact absurd hh.1 (by decide)), fun hh => by (first | omega | exact absurd hh.1 (by assumption) | exact absurd hh.1 (by decide)), rfl, rfl, rfl⟩))), r_mgai⟩, by rw [ht]; exact hP, hD⟩, hS.F ht⟩) hS.2.2 dX10_set_25
    · refine lv_if_eq (tgt := 26) hx hb dX10_set_11 (by decide) (fun _ => ?_) (fun c9 => absurd (by decide) c9)
      refine lv_iload_n hx hb dX10_set_26 rfl (lv_at hl 1 rfl) ?_
      refine lv_iconst (v := 1) hx hb dX10_set_27 (by decide) ?_
      refine lv_icmp_ne (tgt := 53) hx hb dX10_set_28 (by decide) (fun c8 => ?_) (fun c8 => ?_)
      · have dc8 : wh.toInt ≠ 1 := neC rfl (show (1 : Int32).toInt = 1 from rfl) c8
        refine lv_bipush (v := (-3)) hx hb dX10_set_53 (by decide) ?_
        exact W.iret (v := (-3)) hx hb hr (fun tq ht hW => ⟨⟨(-3), (uS [(fun _ => mtel), (fun _ => mgai)] 0 (fun _ => 0)), rfl, ⟨(show spSet mtel mgai wh v ((-3) : Int32) mtel mgai from by (try rw [show ((-3) : Int32).toInt = (-3) from (show ((-3) : Int32).toInt = (-3) from rfl)]); (unfold spSet; subst_vars; first | exact Or.inl ⟨rfl, by omega, rfl, rfl, rfl⟩ | exact Or.inr (Or.inl ⟨rfl, by omega, rfl, rfl, rfl⟩) | exact Or.inr (Or.inr ⟨by (first | (intro hh; omega) | (intro hh; simp_all)), by (first | (intro hh; omega) | (intro hh; simp_all)), rfl, rfl, rfl⟩) | exact Or.inr (Or.inr ⟨fun hh => by (first | omega | exact absurd hh.1 (by assumption) | exact absurd hh.1 (by decide)), fun hh => by (first | omega | exact absurd hh.1 (by assumption) | exact absurd hh.1 (by decide)), rfl, rfl, rfl⟩))), r_mgai⟩, by rw [ht]; exact hP, hD⟩, hS.F ht⟩) hS.2.2 dX10_set_55
      · have dc8 : wh.toInt = 1 := eqC rfl (show (1 : Int32).toInt = 1 from rfl) c8
        exfalso
        omega
set_option maxHeartbeats 4000000 in
set_option maxRecDepth 100000 in
theorem k_X10_fall (l : Launch) (dC : Nat → ClassId) (dI : Nat → Nat → Nat) (cI cZ cQ : ClassId) (b : Nat → Nat) (mday : Int32) (mdoo : Int32) (mdA : Nat → Int32) (mdB : Nat → Int32) (mfar : Nat → Int32) (mmar : Nat → Int32) (mtel : Int32) (mgai : Int32) (mfal : Nat → Int32) (mtop : Nat → Int32) (mstr : Nat → Int32) (mgho : Nat → Int32) (mfai : Nat → Int32) (mpto : Nat → Int32) (mwal : Nat → Int32) (mahd : Nat → Int32) (mahf : Nat → Int32) (mcho : Nat → Int32) (mbes : Nat → Int32) (mbyt : Int32) (mtxt : Nat → Int32) (mpos : Int32) (mtka : Int32) (mtok : Int64) (mdig : Int32) (mnum : Int32) (mfau : Int32) (mrdm : Int32) (mrea : Nat → Int32) (mlin : Int32) (mlne : Nat → Int32) (mthg : Nat → Int32) (mord : Nat → Int32) (mbor : Nat → Int32) (mbsm : Int32) (mans : Nat → Int32) (mand : Nat → Int32) (manr : Nat → Int32) (mali : Nat → Int32) (sz : Nat) (k : Int32) (v : Int32) (r_mday : 0 ≤ mday.toInt ∧ mday.toInt ≤ 400) (r_mdoo : 0 ≤ mdoo.toInt ∧ mdoo.toInt ≤ 14) (r_mdA : rg 14 (0) (7) mdA) (r_mdB : rg 14 (0) (7) mdB) (r_mmar : rg 24 (0) (255) mmar) (r_mgai : 0 ≤ mgai.toInt ∧ mgai.toInt ≤ 100) (r_mfal : rg 11 (0) (30) mfal) (r_mtop : rg 48 (-1) (23) mtop) (r_mstr : rg 48 (0) (100) mstr) (r_mgho : rg 48 (-1) (23) mgho) (r_mfai : rg 48 (0) (100) mfai) (r_mahd : rg 240 (0) (100) mahd) (r_mahf : rg 240 (0) (100) mahf) (r_mcho : rg 5 (-1) (9) mcho) (r_mbyt : 0 ≤ mbyt.toInt ∧ mbyt.toInt ≤ 160) (r_mpos : 0 ≤ mpos.toInt ∧ mpos.toInt ≤ 160) (r_mrdm : 0 ≤ mrdm.toInt ∧ mrdm.toInt ≤ 10) (r_mlin : 0 ≤ mlin.toInt ∧ mlin.toInt ≤ 10) (r_mthg : rg 8 (0) (31) mthg) (r_mord : rg 8 (-1) (8) mord) (r_mans : rg 4 (0) (12) mans) : KW l yX10_fall wsX10_fall { frames := 1, cells := 0, slots := 0, locals := 22 } (dC, dI) (TY cI cZ cQ) (wMod cI cZ cQ b mday mdoo mdA mdB mfar mmar mtel mgai mfal mtop mstr mgho mfai mpto mwal mahd mahf mcho mbes mbyt mtxt mpos mtka mtok mdig mnum mfau mrdm mrea mlin mlne mthg mord mbor mbsm mans mand manr mali) [.ref (b 39), .int k, .int v] sz 0 0 (fun (r : Int32) (u : US) => (spFall mfal k v r (u.1 0)) ∧ (rg 11 (0) (30) (u.1 0))) (fun u : US => (wMod cI cZ cQ b mday mdoo mdA mdB mfar mmar mtel mgai (u.1 0) mtop mstr mgho mfai mpto mwal mahd mahf mcho mbes mbyt mtxt mpos mtka mtok mdig mnum mfau mrdm mrea mlin mlne mthg mord mbor mbsm mans mand manr mali)) := by
  refine Met.ofW (cc := cX10_fall) (maxL := 4) (ret := (some .int)) (by decide) rfl ?_
  intro p e s m args below meth c s₁ B hml hv
  obtain ⟨rfl, hsz, hP, hK, hD0, hN⟩ := hv
  have hx := B.exec
  have hb := B.bytes
  have hr := B.returns
  have hts := atoms_spec (ws := wsX10_fall) B.pre
  have hown : s.vm.findClass RX10 = some m.cls := findClass_of_methodNamed B.named
  have hlocks := B.notSynchronized
  have lf29 := hts (.fieldLink RX10 29 "PalaceOfRoomsModel" "falls" "[I") (List.mem_cons_of_mem _ (List.mem_append_left _ (List.mem_of_getElem? (i := 0) rfl)))
  have inX10 : ∀ w ∈ wsX100, w ∈ wsX10_fall := fun w h => List.mem_cons_of_mem _ (List.mem_append_right _ h)
  subst hsz
  have hD := hD0.self (sz := s.heap.size)
  generalize hAe : va_A (wMod cI cZ cQ b mday mdoo mdA mdB mfar mmar mtel mgai mfal mtop mstr mgho mfai mpto mwal mahd mahf mcho mbes mbyt mtxt mpos mtka mtok mdig mnum mfau mrdm mrea mlin mlne mthg mord mbor mbsm mans mand manr mali) s.heap.size = A at hD ⊢
  have hA : ∀ q : Nat, s.heap.size ≤ q → A q := fun q h => by rw [← hAe]; exact Or.inr h
  have hS : va_S A s.heap s.heap [] := va_S.rf
  have hl := lv_entry ([.ref (b 39), .int k, .int v]) (n := 4) (Nat.le_of_ble_eq_true rfl)
  rw [lg_entry_eq]
  generalize (lg_sl ([.ref (b 39), .int k, .int v]) ++ List.replicate (4 - (lg_sl ([.ref (b 39), .int k, .int v])).length) Slot.unset).toArray = ls at hl ⊢
  have hl : lv_has ls 4 [(0, .ref (b 39)), (1, .int k), (2, .int v)] := hl
  refine lv_iload_n hx hb dX10_fall_0 rfl (lv_at hl 1 rfl) ?_
  refine lv_iconst (v := 0) hx hb dX10_fall_1 (by decide) ?_
  refine lv_bipush (v := 10) hx hb dX10_fall_2 (by decide) ?_
  refine rdS (As := [.int k, .int 0, .int 10]) (rest := []) ⟨hx, hb, hml, hown, hts⟩ (k_X10_in l dC dI cI cZ cQ k (0 : Int32) (10 : Int32)) (va_cwS 3 hts gX10_fall_X10_in rfl rfl rfl (by decide +kernel) ⟨Nat.le_of_ble_eq_true rfl, Nat.le_of_ble_eq_true rfl⟩) hP hK hN [] rfl rfl hl.1 rfl (Nat.le_of_ble_eq_true rfl) dX10_fall_4 ⟨Nat.le_of_ble_eq_true rfl, Nat.le_of_ble_eq_true rfl⟩ (fun r1 h2 => ?_)
  have h2 : ((((r1 = 1) ∧ ((0) ≤ k.toInt) ∧ (k.toInt ≤ (10))) ∨ ((r1 = 0) ∧ (k.toInt < (0) ∨ (10) < k.toInt)))) := h2
  rcases h2 with (⟨rfl, h2_a0, h2_a1⟩ | ⟨rfl, h2_a0⟩)
  · refine lv_if_eq (tgt := 20) hx hb dX10_fall_7 (by decide) (fun c9 => absurd c9 (by decide)) (fun _ => ?_)
    refine lv_iload_n hx hb dX10_fall_10 rfl (lv_at hl 2 rfl) ?_
    refine lv_iconst (v := 0) hx hb dX10_fall_11 (by decide) ?_
    refine lv_bipush (v := 30) hx hb dX10_fall_12 (by decide) ?_
    refine rdS (As := [.int v, .int 0, .int 30]) (rest := []) ⟨hx, hb, hml, hown, hts⟩ (k_X10_in l dC dI cI cZ cQ v (0 : Int32) (30 : Int32)) (va_cwS 3 hts gX10_fall_X10_in rfl rfl rfl (by decide +kernel) ⟨Nat.le_of_ble_eq_true rfl, Nat.le_of_ble_eq_true rfl⟩) hP hK hN [] rfl rfl hl.1 rfl (Nat.le_of_ble_eq_true rfl) dX10_fall_14 ⟨Nat.le_of_ble_eq_true rfl, Nat.le_of_ble_eq_true rfl⟩ (fun r3 h4 => ?_)
    have h4 : ((((r3 = 1) ∧ ((0) ≤ v.toInt) ∧ (v.toInt ≤ (30))) ∨ ((r3 = 0) ∧ (v.toInt < (0) ∨ (30) < v.toInt)))) := h4
    rcases h4 with (⟨rfl, h4_a0, h4_a1⟩ | ⟨rfl, h4_a0⟩)
    · refine lv_if_ne (tgt := 23) hx hb dX10_fall_17 (by decide) (fun _ => ?_) (fun c9 => absurd c9 (by decide))
      refine lv_aload_n hx hb dX10_fall_23 rfl (lv_at hl 0 rfl) ?_
      refine va_get (D := (dC, dI)) (ci := 10) (v := .ref (b 8)) (C := RX10) (T := TX10) (N := 39) hx hb hts inX10 hown hK hP 0 rfl rfl 8 (by decide) lf29 (fun _ h9 => h9) rfl dX10_fall_24 ?_
      refine lv_iload_n hx hb dX10_fall_27 rfl (lv_at hl 1 rfl) ?_
      have b5 : vp_in k 11 := inC rfl (by omega) (by omega)
      refine va_iald hx hb hK hP 5 0 rfl rfl b5 dX10_fall_28 ?_
      have g6 : 0 ≤ (mfal k.toNatClampNeg).toInt ∧ (mfal k.toNatClampNeg).toInt ≤ 30 := rg_at r_mfal b5
      refine lv_topi (fun x7 ex7 => ?_)
      have ix7 : x7.toInt = (mfal k.toNatClampNeg).toInt := by rw [ex7]
      refine lv_istore_n (lv' := [(3, .int x7), (0, .ref (b 39)), (1, .int k), (2, .int v)]) hx hb dX10_fall_29 rfl hl (by decide) rfl (fun ls hl => ?_)
      refine lv_aload_n hx hb dX10_fall_30 rfl (lv_at hl 1 rfl) ?_
      refine va_get (D := (dC, dI)) (ci := 10) (v := .ref (b 8)) (C := RX10) (T := TX10) (N := 39) hx hb hts inX10 hown hK hP 0 rfl rfl 8 (by decide) lf29 (fun _ h9 => h9) rfl dX10_fall_31 ?_
      refine lv_iload_n hx hb dX10_fall_34 rfl (lv_at hl 2 rfl) ?_
      refine lv_iload_n hx hb dX10_fall_35 rfl (lv_at hl 3 rfl) ?_
      have b8 : vp_in k 11 := inC rfl (by omega) (by omega)
      have g9 : rg 11 (0) (30) (upd mfal k.toNatClampNeg v) := rg_upd r_mfal rfl (by omega) (by omega)
      refine va_iast hx hb hK hP hD hS 5 0 rfl rfl b8 dX10_fall_36 (fun H locs hP hD hS => ?_)
      obtain ⟨mfal_u10, emfal_u10⟩ : ∃ f : Nat → Int32, f = upd mfal k.toNatClampNeg v := ⟨_, rfl⟩
      have rmfal_u10 : rg 11 (0) (30) mfal_u10 := by rw [emfal_u10]; exact g9
      have hP : va_P (dC, dI) vwCl (wMod cI cZ cQ b mday mdoo mdA mdB mfar mmar mtel mgai mfal_u10 mtop mstr mgho mfai mpto mwal mahd mahf mcho mbes mbyt mtxt mpos mtka mtok mdig mnum mfau mrdm mrea mlin mlne mthg mord mbor mbsm mans mand manr mali) H := by rw [emfal_u10]; exact hP
      have hD : va_D A (wMod cI cZ cQ b mday mdoo mdA mdB mfar mmar mtel mgai mfal_u10 mtop mstr mgho mfai mpto mwal mahd mahf mcho mbes mbyt mtxt mpos mtka mtok mdig mnum mfau mrdm mrea mlin mlne mthg mord mbor mbsm mans mand manr mali) := by rw [emfal_u10]; exact hD
      refine lv_iload_n hx hb dX10_fall_37 rfl (lv_at hl 0 rfl) ?_
      exact W.iret (v := x7) hx hb hr (fun tq ht hW => ⟨⟨x7, (uS [mfal_u10] 0 (fun _ => 0)), rfl, ⟨(show spFall mfal k v x7 mfal_u10 from by (unfold spFall; subst_vars; first | exact Or.inl (⟨by omega, rfl, rfl⟩) | exact Or.inr (⟨by omega, by omega, rfl, rfl⟩))), rmfal_u10⟩, by rw [ht]; exact hP, hD⟩, hS.F ht⟩) hS.2.2 dX10_fall_38
    · refine lv_if_ne (tgt := 23) hx hb dX10_fall_17 (by decide) (fun c9 => absurd (by decide) c9) (fun _ => ?_)
      refine lv_bipush (v := (-3)) hx hb dX10_fall_20 (by decide) ?_
      exact W.iret (v := (-3)) hx hb hr (fun tq ht hW => ⟨⟨(-3), (uS [mfal] 0 (fun _ => 0)), rfl, ⟨(show spFall mfal k v ((-3) : Int32) mfal from by (try rw [show ((-3) : Int32).toInt = (-3) from (show ((-3) : Int32).toInt = (-3) from rfl)]); (unfold spFall; subst_vars; first | exact Or.inl (⟨by omega, rfl, rfl⟩) | exact Or.inr (⟨by omega, by omega, rfl, rfl⟩))), r_mfal⟩, by rw [ht]; exact hP, hD⟩, hS.F ht⟩) hS.2.2 dX10_fall_22
  · refine lv_if_eq (tgt := 20) hx hb dX10_fall_7 (by decide) (fun _ => ?_) (fun c9 => absurd (by decide) c9)
    refine lv_bipush (v := (-3)) hx hb dX10_fall_20 (by decide) ?_
    exact W.iret (v := (-3)) hx hb hr (fun tq ht hW => ⟨⟨(-3), (uS [mfal] 0 (fun _ => 0)), rfl, ⟨(show spFall mfal k v ((-3) : Int32) mfal from by (try rw [show ((-3) : Int32).toInt = (-3) from (show ((-3) : Int32).toInt = (-3) from rfl)]); (unfold spFall; subst_vars; first | exact Or.inl (⟨by omega, rfl, rfl⟩) | exact Or.inr (⟨by omega, by omega, rfl, rfl⟩))), r_mfal⟩, by rw [ht]; exact hP, hD⟩, hS.F ht⟩) hS.2.2 dX10_fall_22
end
