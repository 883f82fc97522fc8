theorem dX0_seek_28 : decode cX0_seek 28 = .ok (.getfield 18, 3) := dz_at dqX0_seek_p091 1 rfl
theorem dX0_seek_31 : decode cX0_seek 31 = .ok (.iconst 0, 1) := dz_at dqX0_seek_p091 2 rfl
theorem dX0_seek_32 : decode cX0_seek 32 = .ok (.aload_n 0, 1) := dz_at dqX0_seek_p091 3 rfl
theorem dX0_seek_33 : decode cX0_seek 33 = .ok (.getfield 21, 3) := dz_at dqX0_seek_p091 4 rfl
theorem dX0_seek_36 : decode cX0_seek 36 = .ok (.iconst 0, 1) := dz_at dqX0_seek_p091 5 rfl
theorem dX0_seek_37 : decode cX0_seek 37 = .ok (.bipush 6, 2) := dz_at dqX0_seek_p091 6 rfl
theorem dX0_seek_39 : decode cX0_seek 39 = .ok (.invokestatic 28, 3) := dz_at dqX0_seek_p091 7 rfl
theorem dX0_seek_42 : decode cX0_seek 42 = .ok (.return_, 1) := dz_at dqX0_seek_p091 8 rfl
theorem dX0_seek_43 : decode cX0_seek 43 = .ok (.iconst 0, 1) := dz_at dqX0_seek_p091 9 rfl
theorem dX0_seek_44 : decode cX0_seek 44 = .ok (.istore 5, 2) := dz_at dqX0_seek_p091 10 rfl
theorem dX0_seek_46 : decode cX0_seek 46 = .ok (.iload 5, 2) := dz_at dqX0_seek_p091 11 rfl
theorem dX0_seek_48 : decode cX0_seek 48 = .ok (.iload_n 2, 1) := dz_at dqX0_seek_p091 12 rfl
theorem dX0_seek_49 : decode cX0_seek 49 = .ok (.if_icmp .ge 53, 3) := dz_at dqX0_seek_p091 13 rfl
set_option maxRecDepth 20000 in
theorem dqX0_seek_p092 : dz_rn 52 (cX0_seek.data.toList.drop 52) [(0, 3), (1, 0), (0, 32), (0, 9), (0, 29), (4, 8), (0, 4), (3, 0), (0, 1), (0, 4), (3, 0), (1, 0), (0, 10), (0, 22)] = some [(52, .iload_n 3, 1), (53, .iload 5, 2), (55, .ishr, 1), (56, .iconst 1, 1), (57, .iand, 1), (58, .ifCond .ne 38, 3), (61, .aload_n 0, 1), (62, .getfield 18, 3), (65, .iload_n 1, 1), (66, .aload_n 0, 1), (67, .getfield 15, 3), (70, .iload 5, 2), (72, .iaload, 1), (73, .iastore, 1)] := by decide +kernel
theorem dX0_seek_52 : decode cX0_seek 52 = .ok (.iload_n 3, 1) := dz_at dqX0_seek_p092 0 rfl
theorem dX0_seek_53 : decode cX0_seek 53 = .ok (.iload 5, 2) := dz_at dqX0_seek_p092 1 rfl
theorem dX0_seek_55 : decode cX0_seek 55 = .ok (.ishr, 1) := dz_at dqX0_seek_p092 2 rfl
theorem dX0_seek_56 : decode cX0_seek 56 = .ok (.iconst 1, 1) := dz_at dqX0_seek_p092 3 rfl
theorem dX0_seek_57 : decode cX0_seek 57 = .ok (.iand, 1) := dz_at dqX0_seek_p092 4 rfl
theorem dX0_seek_58 : decode cX0_seek 58 = .ok (.ifCond .ne 38, 3) := dz_at dqX0_seek_p092 5 rfl
theorem dX0_seek_61 : decode cX0_seek 61 = .ok (.aload_n 0, 1) := dz_at dqX0_seek_p092 6 rfl
theorem dX0_seek_62 : decode cX0_seek 62 = .ok (.getfield 18, 3) := dz_at dqX0_seek_p092 7 rfl
theorem dX0_seek_65 : decode cX0_seek 65 = .ok (.iload_n 1, 1) := dz_at dqX0_seek_p092 8 rfl
theorem dX0_seek_66 : decode cX0_seek 66 = .ok (.aload_n 0, 1) := dz_at dqX0_seek_p092 9 rfl
theorem dX0_seek_67 : decode cX0_seek 67 = .ok (.getfield 15, 3) := dz_at dqX0_seek_p092 10 rfl
theorem dX0_seek_70 : decode cX0_seek 70 = .ok (.iload 5, 2) := dz_at dqX0_seek_p092 11 rfl
theorem dX0_seek_72 : decode cX0_seek 72 = .ok (.iaload, 1) := dz_at dqX0_seek_p092 12 rfl
theorem dX0_seek_73 : decode cX0_seek 73 = .ok (.iastore, 1) := dz_at dqX0_seek_p092 13 rfl
set_option maxRecDepth 20000 in
theorem dqX0_seek_p093 : dz_rn 74 (cX0_seek.data.toList.drop 74) [(0, 4), (0, 1), (0, 9), (0, 11), (0, 2), (0, 3), (0, 9), (1, 0), (0, 31), (0, 39), (1, 0), (0, 4), (0, 1), (3, 1)] = some [(74, .aload_n 0, 1), (75, .iload_n 1, 1), (76, .iconst 1, 1), (77, .iadd, 1), (78, .iload_n 2, 1), (79, .iload_n 3, 1), (80, .iconst 1, 1), (81, .iload 5, 2), (83, .ishl, 1), (84, .ior, 1), (85, .iload 4, 2), (87, .aload_n 0, 1), (88, .iload_n 1, 1), (89, .invokevirtual 42, 3)] := by decide +kernel
theorem dX0_seek_74 : decode cX0_seek 74 = .ok (.aload_n 0, 1) := dz_at dqX0_seek_p093 0 rfl
theorem dX0_seek_75 : decode cX0_seek 75 = .ok (.iload_n 1, 1) := dz_at dqX0_seek_p093 1 rfl
theorem dX0_seek_76 : decode cX0_seek 76 = .ok (.iconst 1, 1) := dz_at dqX0_seek_p093 2 rfl
theorem dX0_seek_77 : decode cX0_seek 77 = .ok (.iadd, 1) := dz_at dqX0_seek_p093 3 rfl
theorem dX0_seek_78 : decode cX0_seek 78 = .ok (.iload_n 2, 1) := dz_at dqX0_seek_p093 4 rfl
theorem dX0_seek_79 : decode cX0_seek 79 = .ok (.iload_n 3, 1) := dz_at dqX0_seek_p093 5 rfl
theorem dX0_seek_80 : decode cX0_seek 80 = .ok (.iconst 1, 1) := dz_at dqX0_seek_p093 6 rfl
theorem dX0_seek_81 : decode cX0_seek 81 = .ok (.iload 5, 2) := dz_at dqX0_seek_p093 7 rfl
theorem dX0_seek_83 : decode cX0_seek 83 = .ok (.ishl, 1) := dz_at dqX0_seek_p093 8 rfl
theorem dX0_seek_84 : decode cX0_seek 84 = .ok (.ior, 1) := dz_at dqX0_seek_p093 9 rfl
theorem dX0_seek_85 : decode cX0_seek 85 = .ok (.iload 4, 2) := dz_at dqX0_seek_p093 10 rfl
theorem dX0_seek_87 : decode cX0_seek 87 = .ok (.aload_n 0, 1) := dz_at dqX0_seek_p093 11 rfl
theorem dX0_seek_88 : decode cX0_seek 88 = .ok (.iload_n 1, 1) := dz_at dqX0_seek_p093 12 rfl
theorem dX0_seek_89 : decode cX0_seek 89 = .ok (.invokevirtual 42, 3) := dz_at dqX0_seek_p093 13 rfl
set_option maxRecDepth 20000 in
theorem dqX0_seek_p094 : dz_rn 92 (cX0_seek.data.toList.drop 92) [(0, 11), (3, 1), (5, 0), (4, 0), (0, 25)] = some [(92, .iadd, 1), (93, .invokevirtual 38, 3), (96, .iinc 5 1, 3), (99, .goto (-53), 3), (102, .return_, 1)] := by decide +kernel
theorem dX0_seek_92 : decode cX0_seek 92 = .ok (.iadd, 1) := dz_at dqX0_seek_p094 0 rfl
theorem dX0_seek_93 : decode cX0_seek 93 = .ok (.invokevirtual 38, 3) := dz_at dqX0_seek_p094 1 rfl
theorem dX0_seek_96 : decode cX0_seek 96 = .ok (.iinc 5 1, 3) := dz_at dqX0_seek_p094 2 rfl
theorem dX0_seek_99 : decode cX0_seek 99 = .ok (.goto (-53), 3) := dz_at dqX0_seek_p094 3 rfl
theorem dX0_seek_102 : decode cX0_seek 102 = .ok (.return_, 1) := dz_at dqX0_seek_p094 4 rfl
set_option maxRecDepth 20000 in
theorem ggX0_harmOf_X2_shared : GoodIn wsX0_harmOf wsX2_shared := goodIn_r _ [8, 9, 10, 11, 12, 13, 14, 15, 16, 23] rfl (by decide +kernel)
set_option maxRecDepth 20000 in
theorem gX0_harmOf_X2_shared : GoodIn wsX0_harmOf (wsV RX0 46 RX2 yX2_shared wsX2_shared) := goodIn_app (goodIn_of _ (by decide +kernel)) ggX0_harmOf_X2_shared
set_option maxRecDepth 20000 in
theorem dqX0_harmOf_p090 : dz_rn 0 (cX0_harmOf.data.toList.drop 0) [(0, 8), (0, 20), (0, 8), (0, 21), (0, 3), (0, 1), (4, 4), (0, 2), (0, 4), (3, 0), (0, 4), (3, 0), (0, 3), (0, 10)] = some [(0, .iconst 0, 1), (1, .istore_n 2, 1), (2, .iconst 0, 1), (3, .istore_n 3, 1), (4, .iload_n 3, 1), (5, .iload_n 1, 1), (6, .if_icmp .ge 43, 3), (9, .iload_n 2, 1), (10, .aload_n 0, 1), (11, .getfield 24, 3), (14, .aload_n 0, 1), (15, .getfield 18, 3), (18, .iload_n 3, 1), (19, .iaload, 1)] := by decide +kernel
theorem dX0_harmOf_0 : decode cX0_harmOf 0 = .ok (.iconst 0, 1) := dz_at dqX0_harmOf_p090 0 rfl
theorem dX0_harmOf_1 : decode cX0_harmOf 1 = .ok (.istore_n 2, 1) := dz_at dqX0_harmOf_p090 1 rfl
theorem dX0_harmOf_2 : decode cX0_harmOf 2 = .ok (.iconst 0, 1) := dz_at dqX0_harmOf_p090 2 rfl
theorem dX0_harmOf_3 : decode cX0_harmOf 3 = .ok (.istore_n 3, 1) := dz_at dqX0_harmOf_p090 3 rfl
theorem dX0_harmOf_4 : decode cX0_harmOf 4 = .ok (.iload_n 3, 1) := dz_at dqX0_harmOf_p090 4 rfl
theorem dX0_harmOf_5 : decode cX0_harmOf 5 = .ok (.iload_n 1, 1) := dz_at dqX0_harmOf_p090 5 rfl
theorem dX0_harmOf_6 : decode cX0_harmOf 6 = .ok (.if_icmp .ge 43, 3) := dz_at dqX0_harmOf_p090 6 rfl
theorem dX0_harmOf_9 : decode cX0_harmOf 9 = .ok (.iload_n 2, 1) := dz_at dqX0_harmOf_p090 7 rfl
theorem dX0_harmOf_10 : decode cX0_harmOf 10 = .ok (.aload_n 0, 1) := dz_at dqX0_harmOf_p090 8 rfl
theorem dX0_harmOf_11 : decode cX0_harmOf 11 = .ok (.getfield 24, 3) := dz_at dqX0_harmOf_p090 9 rfl
theorem dX0_harmOf_14 : decode cX0_harmOf 14 = .ok (.aload_n 0, 1) := dz_at dqX0_harmOf_p090 10 rfl
theorem dX0_harmOf_15 : decode cX0_harmOf 15 = .ok (.getfield 18, 3) := dz_at dqX0_harmOf_p090 11 rfl
theorem dX0_harmOf_18 : decode cX0_harmOf 18 = .ok (.iload_n 3, 1) := dz_at dqX0_harmOf_p090 12 rfl
theorem dX0_harmOf_19 : decode cX0_harmOf 19 = .ok (.iaload, 1) := dz_at dqX0_harmOf_p090 13 rfl
set_option maxRecDepth 20000 in
theorem dqX0_harmOf_p091 : dz_rn 20 (cX0_harmOf.data.toList.drop 20) [(0, 4), (3, 0), (0, 1), (0, 10), (3, 1), (0, 4), (3, 0), (0, 3), (2, 0), (0, 23), (0, 1), (0, 11), (0, 10), (0, 23)] = some [(20, .aload_n 0, 1), (21, .getfield 18, 3), (24, .iload_n 1, 1), (25, .iaload, 1), (26, .invokevirtual 46, 3), (29, .aload_n 0, 1), (30, .getfield 9, 3), (33, .iload_n 3, 1), (34, .bipush 10, 2), (36, .imul, 1), (37, .iload_n 1, 1), (38, .iadd, 1), (39, .iaload, 1), (40, .imul, 1)] := by decide +kernel
theorem dX0_harmOf_20 : decode cX0_harmOf 20 = .ok (.aload_n 0, 1) := dz_at dqX0_harmOf_p091 0 rfl
theorem dX0_harmOf_21 : decode cX0_harmOf 21 = .ok (.getfield 18, 3) := dz_at dqX0_harmOf_p091 1 rfl
theorem dX0_harmOf_24 : decode cX0_harmOf 24 = .ok (.iload_n 1, 1) := dz_at dqX0_harmOf_p091 2 rfl
theorem dX0_harmOf_25 : decode cX0_harmOf 25 = .ok (.iaload, 1) := dz_at dqX0_harmOf_p091 3 rfl
theorem dX0_harmOf_26 : decode cX0_harmOf 26 = .ok (.invokevirtual 46, 3) := dz_at dqX0_harmOf_p091 4 rfl
theorem dX0_harmOf_29 : decode cX0_harmOf 29 = .ok (.aload_n 0, 1) := dz_at dqX0_harmOf_p091 5 rfl
theorem dX0_harmOf_30 : decode cX0_harmOf 30 = .ok (.getfield 9, 3) := dz_at dqX0_harmOf_p091 6 rfl
theorem dX0_harmOf_33 : decode cX0_harmOf 33 = .ok (.iload_n 3, 1) := dz_at dqX0_harmOf_p091 7 rfl
theorem dX0_harmOf_34 : decode cX0_harmOf 34 = .ok (.bipush 10, 2) := dz_at dqX0_harmOf_p091 8 rfl
theorem dX0_harmOf_36 : decode cX0_harmOf 36 = .ok (.imul, 1) := dz_at dqX0_harmOf_p091 9 rfl
theorem dX0_harmOf_37 : decode cX0_harmOf 37 = .ok (.iload_n 1, 1) := dz_at dqX0_harmOf_p091 10 rfl
theorem dX0_harmOf_38 : decode cX0_harmOf 38 = .ok (.iadd, 1) := dz_at dqX0_harmOf_p091 11 rfl
theorem dX0_harmOf_39 : decode cX0_harmOf 39 = .ok (.iaload, 1) := dz_at dqX0_harmOf_p091 12 rfl
theorem dX0_harmOf_40 : decode cX0_harmOf 40 = .ok (.imul, 1) := dz_at dqX0_harmOf_p091 13 rfl
set_option maxRecDepth 20000 in
theorem dqX0_harmOf_p092 : dz_rn 41 (cX0_harmOf.data.toList.drop 41) [(0, 11), (0, 20), (5, 0), (4, 0), (0, 2), (0, 12)] = some [(41, .iadd, 1), (42, .istore_n 2, 1), (43, .iinc 3 1, 3), (46, .goto (-42), 3), (49, .iload_n 2, 1), (50, .ireturn, 1)] := by decide +kernel
theorem dX0_harmOf_41 : decode cX0_harmOf 41 = .ok (.iadd, 1) := dz_at dqX0_harmOf_p092 0 rfl
theorem dX0_harmOf_42 : decode cX0_harmOf 42 = .ok (.istore_n 2, 1) := dz_at dqX0_harmOf_p092 1 rfl
theorem dX0_harmOf_43 : decode cX0_harmOf 43 = .ok (.iinc 3 1, 3) := dz_at dqX0_harmOf_p092 2 rfl
theorem dX0_harmOf_46 : decode cX0_harmOf 46 = .ok (.goto (-42), 3) := dz_at dqX0_harmOf_p092 3 rfl
theorem dX0_harmOf_49 : decode cX0_harmOf 49 = .ok (.iload_n 2, 1) := dz_at dqX0_harmOf_p092 4 rfl
theorem dX0_harmOf_50 : decode cX0_harmOf 50 = .ok (.ireturn, 1) := dz_at dqX0_harmOf_p092 5 rfl
