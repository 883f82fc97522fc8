set_option maxRecDepth 20000 in
theorem ggX1_init_J7_fill_53178 : GoodIn wsX1_init wsJ7_fill_53178 := goodIn_r _ [20] rfl (by decide +kernel)
set_option maxRecDepth 20000 in
theorem gX1_init_J7_fill_53178 : GoodIn wsX1_init (va_wsS RX1 50 yJ7_fill_53178 wsJ7_fill_53178) := goodIn_app (goodIn_of _ (by decide +kernel)) ggX1_init_J7_fill_53178
set_option maxRecDepth 20000 in
theorem dqX1_init_p050 : dz_rn 0 (cX1_init.data.toList.drop 0) [(0, 4), (3, 5), (0, 4), (2, 0)] = some [(0, .aload_n 0, 1), (1, .invokespecial 3, 3), (4, .aload_n 0, 1), (5, .bipush 48, 2)] := by decide +kernel
theorem dX1_init_0 : decode cX1_init 0 = .ok (.aload_n 0, 1) := dz_at dqX1_init_p050 0 rfl
theorem dX1_init_1 : decode cX1_init 1 = .ok (.invokespecial 3, 3) := dz_at dqX1_init_p050 1 rfl
theorem dX1_init_4 : decode cX1_init 4 = .ok (.aload_n 0, 1) := dz_at dqX1_init_p050 2 rfl
theorem dX1_init_5 : decode cX1_init 5 = .ok (.bipush 48, 2) := dz_at dqX1_init_p050 3 rfl
theorem dX1_init_7 : decode cX1_init 7 = .ok (.newarray .int, 2) := by decide +kernel
set_option maxRecDepth 20000 in
theorem dqX1_init_p051 : dz_rn 9 (cX1_init.data.toList.drop 9) [(3, 3), (0, 4), (2, 0)] = some [(9, .putfield 9, 3), (12, .aload_n 0, 1), (13, .bipush 48, 2)] := by decide +kernel
theorem dX1_init_9 : decode cX1_init 9 = .ok (.putfield 9, 3) := dz_at dqX1_init_p051 0 rfl
theorem dX1_init_12 : decode cX1_init 12 = .ok (.aload_n 0, 1) := dz_at dqX1_init_p051 1 rfl
theorem dX1_init_13 : decode cX1_init 13 = .ok (.bipush 48, 2) := dz_at dqX1_init_p051 2 rfl
theorem dX1_init_15 : decode cX1_init 15 = .ok (.newarray .int, 2) := by decide +kernel
set_option maxRecDepth 20000 in
theorem dqX1_init_p052 : dz_rn 17 (cX1_init.data.toList.drop 17) [(3, 3), (0, 4), (2, 0)] = some [(17, .putfield 15, 3), (20, .aload_n 0, 1), (21, .bipush 48, 2)] := by decide +kernel
theorem dX1_init_17 : decode cX1_init 17 = .ok (.putfield 15, 3) := dz_at dqX1_init_p052 0 rfl
theorem dX1_init_20 : decode cX1_init 20 = .ok (.aload_n 0, 1) := dz_at dqX1_init_p052 1 rfl
theorem dX1_init_21 : decode cX1_init 21 = .ok (.bipush 48, 2) := dz_at dqX1_init_p052 2 rfl
theorem dX1_init_23 : decode cX1_init 23 = .ok (.newarray .int, 2) := by decide +kernel
set_option maxRecDepth 20000 in
theorem dqX1_init_p053 : dz_rn 25 (cX1_init.data.toList.drop 25) [(3, 3), (0, 4), (2, 0)] = some [(25, .putfield 18, 3), (28, .aload_n 0, 1), (29, .bipush 48, 2)] := by decide +kernel
theorem dX1_init_25 : decode cX1_init 25 = .ok (.putfield 18, 3) := dz_at dqX1_init_p053 0 rfl
theorem dX1_init_28 : decode cX1_init 28 = .ok (.aload_n 0, 1) := dz_at dqX1_init_p053 1 rfl
theorem dX1_init_29 : decode cX1_init 29 = .ok (.bipush 48, 2) := dz_at dqX1_init_p053 2 rfl
theorem dX1_init_31 : decode cX1_init 31 = .ok (.newarray .int, 2) := by decide +kernel
set_option maxRecDepth 20000 in
theorem dqX1_init_p054 : dz_rn 33 (cX1_init.data.toList.drop 33) [(3, 3), (0, 4), (2, 0)] = some [(33, .putfield 21, 3), (36, .aload_n 0, 1), (37, .bipush 48, 2)] := by decide +kernel
theorem dX1_init_33 : decode cX1_init 33 = .ok (.putfield 21, 3) := dz_at dqX1_init_p054 0 rfl
theorem dX1_init_36 : decode cX1_init 36 = .ok (.aload_n 0, 1) := dz_at dqX1_init_p054 1 rfl
theorem dX1_init_37 : decode cX1_init 37 = .ok (.bipush 48, 2) := dz_at dqX1_init_p054 2 rfl
theorem dX1_init_39 : decode cX1_init 39 = .ok (.newarray .int, 2) := by decide +kernel
set_option maxRecDepth 20000 in
theorem dqX1_init_p055 : dz_rn 41 (cX1_init.data.toList.drop 41) [(3, 3), (0, 4), (2, 0)] = some [(41, .putfield 24, 3), (44, .aload_n 0, 1), (45, .bipush 48, 2)] := by decide +kernel
theorem dX1_init_41 : decode cX1_init 41 = .ok (.putfield 24, 3) := dz_at dqX1_init_p055 0 rfl
theorem dX1_init_44 : decode cX1_init 44 = .ok (.aload_n 0, 1) := dz_at dqX1_init_p055 1 rfl
theorem dX1_init_45 : decode cX1_init 45 = .ok (.bipush 48, 2) := dz_at dqX1_init_p055 2 rfl
theorem dX1_init_47 : decode cX1_init 47 = .ok (.newarray .int, 2) := by decide +kernel
set_option maxRecDepth 20000 in
theorem dqX1_init_p056 : dz_rn 49 (cX1_init.data.toList.drop 49) [(3, 3), (0, 4), (2, 0)] = some [(49, .putfield 27, 3), (52, .aload_n 0, 1), (53, .bipush 24, 2)] := by decide +kernel
theorem dX1_init_49 : decode cX1_init 49 = .ok (.putfield 27, 3) := dz_at dqX1_init_p056 0 rfl
theorem dX1_init_52 : decode cX1_init 52 = .ok (.aload_n 0, 1) := dz_at dqX1_init_p056 1 rfl
theorem dX1_init_53 : decode cX1_init 53 = .ok (.bipush 24, 2) := dz_at dqX1_init_p056 2 rfl
theorem dX1_init_55 : decode cX1_init 55 = .ok (.newarray .int, 2) := by decide +kernel
set_option maxRecDepth 20000 in
theorem dqX1_init_p057 : dz_rn 57 (cX1_init.data.toList.drop 57) [(3, 3), (0, 4), (2, 0)] = some [(57, .putfield 30, 3), (60, .aload_n 0, 1), (61, .bipush 8, 2)] := by decide +kernel
theorem dX1_init_57 : decode cX1_init 57 = .ok (.putfield 30, 3) := dz_at dqX1_init_p057 0 rfl
theorem dX1_init_60 : decode cX1_init 60 = .ok (.aload_n 0, 1) := dz_at dqX1_init_p057 1 rfl
theorem dX1_init_61 : decode cX1_init 61 = .ok (.bipush 8, 2) := dz_at dqX1_init_p057 2 rfl
theorem dX1_init_63 : decode cX1_init 63 = .ok (.newarray .int, 2) := by decide +kernel
set_option maxRecDepth 20000 in
theorem dqX1_init_p058 : dz_rn 65 (cX1_init.data.toList.drop 65) [(3, 3), (0, 4), (2, 0)] = some [(65, .putfield 33, 3), (68, .aload_n 0, 1), (69, .bipush 11, 2)] := by decide +kernel
theorem dX1_init_65 : decode cX1_init 65 = .ok (.putfield 33, 3) := dz_at dqX1_init_p058 0 rfl
theorem dX1_init_68 : decode cX1_init 68 = .ok (.aload_n 0, 1) := dz_at dqX1_init_p058 1 rfl
theorem dX1_init_69 : decode cX1_init 69 = .ok (.bipush 11, 2) := dz_at dqX1_init_p058 2 rfl
theorem dX1_init_71 : decode cX1_init 71 = .ok (.newarray .int, 2) := by decide +kernel
set_option maxRecDepth 20000 in
theorem dqX1_init_p059 : dz_rn 73 (cX1_init.data.toList.drop 73) [(3, 3), (0, 4), (0, 16), (3, 3), (0, 4), (2, 0), (3, 3), (0, 4), (0, 5), (3, 3), (0, 4), (3, 0), (0, 13), (3, 2)] = some [(73, .putfield 36, 3), (76, .aload_n 0, 1), (77, .iconst 4, 1), (78, .putfield 39, 3), (81, .aload_n 0, 1), (82, .bipush 50, 2), (84, .putfield 43, 3), (87, .aload_n 0, 1), (88, .aload_n 1, 1), (89, .putfield 46, 3), (92, .aload_n 0, 1), (93, .getfield 9, 3), (96, .iconst (-1), 1), (97, .invokestatic 50, 3)] := by decide +kernel
theorem dX1_init_73 : decode cX1_init 73 = .ok (.putfield 36, 3) := dz_at dqX1_init_p059 0 rfl
theorem dX1_init_76 : decode cX1_init 76 = .ok (.aload_n 0, 1) := dz_at dqX1_init_p059 1 rfl
theorem dX1_init_77 : decode cX1_init 77 = .ok (.iconst 4, 1) := dz_at dqX1_init_p059 2 rfl
theorem dX1_init_78 : decode cX1_init 78 = .ok (.putfield 39, 3) := dz_at dqX1_init_p059 3 rfl
theorem dX1_init_81 : decode cX1_init 81 = .ok (.aload_n 0, 1) := dz_at dqX1_init_p059 4 rfl
theorem dX1_init_82 : decode cX1_init 82 = .ok (.bipush 50, 2) := dz_at dqX1_init_p059 5 rfl
theorem dX1_init_84 : decode cX1_init 84 = .ok (.putfield 43, 3) := dz_at dqX1_init_p059 6 rfl
theorem dX1_init_87 : decode cX1_init 87 = .ok (.aload_n 0, 1) := dz_at dqX1_init_p059 7 rfl
theorem dX1_init_88 : decode cX1_init 88 = .ok (.aload_n 1, 1) := dz_at dqX1_init_p059 8 rfl
theorem dX1_init_89 : decode cX1_init 89 = .ok (.putfield 46, 3) := dz_at dqX1_init_p059 9 rfl
theorem dX1_init_92 : decode cX1_init 92 = .ok (.aload_n 0, 1) := dz_at dqX1_init_p059 10 rfl
theorem dX1_init_93 : decode cX1_init 93 = .ok (.getfield 9, 3) := dz_at dqX1_init_p059 11 rfl
theorem dX1_init_96 : decode cX1_init 96 = .ok (.iconst (-1), 1) := dz_at dqX1_init_p059 12 rfl
theorem dX1_init_97 : decode cX1_init 97 = .ok (.invokestatic 50, 3) := dz_at dqX1_init_p059 13 rfl
set_option maxRecDepth 20000 in
theorem dqX1_init_p0510 : dz_rn 100 (cX1_init.data.toList.drop 100) [(0, 4), (3, 0), (0, 13), (3, 2), (0, 4), (3, 0), (0, 13), (3, 2), (0, 4), (3, 0), (0, 13), (3, 2), (0, 4), (3, 0)] = some [(100, .aload_n 0, 1), (101, .getfield 18, 3), (104, .iconst (-1), 1), (105, .invokestatic 50, 3), (108, .aload_n 0, 1), (109, .getfield 24, 3), (112, .iconst (-1), 1), (113, .invokestatic 50, 3), (116, .aload_n 0, 1), (117, .getfield 30, 3), (120, .iconst (-1), 1), (121, .invokestatic 50, 3), (124, .aload_n 0, 1), (125, .getfield 33, 3)] := by decide +kernel
theorem dX1_init_100 : decode cX1_init 100 = .ok (.aload_n 0, 1) := dz_at dqX1_init_p0510 0 rfl
theorem dX1_init_101 : decode cX1_init 101 = .ok (.getfield 18, 3) := dz_at dqX1_init_p0510 1 rfl
theorem dX1_init_104 : decode cX1_init 104 = .ok (.iconst (-1), 1) := dz_at dqX1_init_p0510 2 rfl
theorem dX1_init_105 : decode cX1_init 105 = .ok (.invokestatic 50, 3) := dz_at dqX1_init_p0510 3 rfl
theorem dX1_init_108 : decode cX1_init 108 = .ok (.aload_n 0, 1) := dz_at dqX1_init_p0510 4 rfl
theorem dX1_init_109 : decode cX1_init 109 = .ok (.getfield 24, 3) := dz_at dqX1_init_p0510 5 rfl
theorem dX1_init_112 : decode cX1_init 112 = .ok (.iconst (-1), 1) := dz_at dqX1_init_p0510 6 rfl
theorem dX1_init_113 : decode cX1_init 113 = .ok (.invokestatic 50, 3) := dz_at dqX1_init_p0510 7 rfl
theorem dX1_init_116 : decode cX1_init 116 = .ok (.aload_n 0, 1) := dz_at dqX1_init_p0510 8 rfl
theorem dX1_init_117 : decode cX1_init 117 = .ok (.getfield 30, 3) := dz_at dqX1_init_p0510 9 rfl
theorem dX1_init_120 : decode cX1_init 120 = .ok (.iconst (-1), 1) := dz_at dqX1_init_p0510 10 rfl
theorem dX1_init_121 : decode cX1_init 121 = .ok (.invokestatic 50, 3) := dz_at dqX1_init_p0510 11 rfl
theorem dX1_init_124 : decode cX1_init 124 = .ok (.aload_n 0, 1) := dz_at dqX1_init_p0510 12 rfl
theorem dX1_init_125 : decode cX1_init 125 = .ok (.getfield 33, 3) := dz_at dqX1_init_p0510 13 rfl
set_option maxRecDepth 20000 in
theorem dqX1_init_p0511 : dz_rn 128 (cX1_init.data.toList.drop 128) [(0, 13), (3, 2), (0, 4), (3, 0), (0, 17), (3, 2), (0, 25)] = some [(128, .iconst (-1), 1), (129, .invokestatic 50, 3), (132, .aload_n 0, 1), (133, .getfield 36, 3), (136, .iconst 5, 1), (137, .invokestatic 50, 3), (140, .return_, 1)] := by decide +kernel
theorem dX1_init_128 : decode cX1_init 128 = .ok (.iconst (-1), 1) := dz_at dqX1_init_p0511 0 rfl
theorem dX1_init_129 : decode cX1_init 129 = .ok (.invokestatic 50, 3) := dz_at dqX1_init_p0511 1 rfl
theorem dX1_init_132 : decode cX1_init 132 = .ok (.aload_n 0, 1) := dz_at dqX1_init_p0511 2 rfl
theorem dX1_init_133 : decode cX1_init 133 = .ok (.getfield 36, 3) := dz_at dqX1_init_p0511 3 rfl
theorem dX1_init_136 : decode cX1_init 136 = .ok (.iconst 5, 1) := dz_at dqX1_init_p0511 4 rfl
theorem dX1_init_137 : decode cX1_init 137 = .ok (.invokestatic 50, 3) := dz_at dqX1_init_p0511 5 rfl
theorem dX1_init_140 : decode cX1_init 140 = .ok (.return_, 1) := dz_at dqX1_init_p0511 6 rfl
set_option maxRecDepth 20000 in
theorem ggX1_muchAlike_X2_shared : GoodIn wsX1_muchAlike wsX2_shared := goodIn_r _ [7, 8, 9, 10, 11, 12, 13, 14, 15, 29] rfl (by decide +kernel)
set_option maxRecDepth 20000 in
theorem gX1_muchAlike_X2_shared : GoodIn wsX1_muchAlike (wsV RX1 56 RX2 yX2_shared wsX2_shared) := goodIn_app (goodIn_of _ (by decide +kernel)) ggX1_muchAlike_X2_shared
set_option maxRecDepth 20000 in
theorem dqX1_muchAlike_p050 : dz_rn 0 (cX1_muchAlike.data.toList.drop 0) [(0, 4), (3, 0), (0, 1), (0, 2), (3, 1), (0, 4), (3, 0), (4, 3), (0, 9), (4, 0), (0, 8), (0, 12)] = some [(0, .aload_n 0, 1), (1, .getfield 46, 3), (4, .iload_n 1, 1), (5, .iload_n 2, 1), (6, .invokevirtual 56, 3), (9, .aload_n 0, 1), (10, .getfield 39, 3), (13, .if_icmp .lt 7, 3), (16, .iconst 1, 1), (17, .goto 4, 3), (20, .iconst 0, 1), (21, .ireturn, 1)] := by decide +kernel
theorem dX1_muchAlike_0 : decode cX1_muchAlike 0 = .ok (.aload_n 0, 1) := dz_at dqX1_muchAlike_p050 0 rfl
theorem dX1_muchAlike_1 : decode cX1_muchAlike 1 = .ok (.getfield 46, 3) := dz_at dqX1_muchAlike_p050 1 rfl
theorem dX1_muchAlike_4 : decode cX1_muchAlike 4 = .ok (.iload_n 1, 1) := dz_at dqX1_muchAlike_p050 2 rfl
theorem dX1_muchAlike_5 : decode cX1_muchAlike 5 = .ok (.iload_n 2, 1) := dz_at dqX1_muchAlike_p050 3 rfl
theorem dX1_muchAlike_6 : decode cX1_muchAlike 6 = .ok (.invokevirtual 56, 3) := dz_at dqX1_muchAlike_p050 4 rfl
theorem dX1_muchAlike_9 : decode cX1_muchAlike 9 = .ok (.aload_n 0, 1) := dz_at dqX1_muchAlike_p050 5 rfl
theorem dX1_muchAlike_10 : decode cX1_muchAlike 10 = .ok (.getfield 39, 3) := dz_at dqX1_muchAlike_p050 6 rfl
theorem dX1_muchAlike_13 : decode cX1_muchAlike 13 = .ok (.if_icmp .lt 7, 3) := dz_at dqX1_muchAlike_p050 7 rfl
theorem dX1_muchAlike_16 : decode cX1_muchAlike 16 = .ok (.iconst 1, 1) := dz_at dqX1_muchAlike_p050 8 rfl
theorem dX1_muchAlike_17 : decode cX1_muchAlike 17 = .ok (.goto 4, 3) := dz_at dqX1_muchAlike_p050 9 rfl
theorem dX1_muchAlike_20 : decode cX1_muchAlike 20 = .ok (.iconst 0, 1) := dz_at dqX1_muchAlike_p050 10 rfl
theorem dX1_muchAlike_21 : decode cX1_muchAlike 21 = .ok (.ireturn, 1) := dz_at dqX1_muchAlike_p050 11 rfl
set_option maxRecDepth 20000 in
theorem dqX1_cover_p050 : dz_rn 0 (cX1_cover.data.toList.drop 0) [(0, 4), (3, 0), (0, 1), (0, 10), (0, 21), (0, 3), (0, 13), (4, 1), (0, 4), (3, 0), (0, 3), (0, 13), (0, 22), (0, 4)] = some [(0, .aload_n 0, 1), (1, .getfield 9, 3), (4, .iload_n 1, 1), (5, .iaload, 1), (6, .istore_n 3, 1), (7, .iload_n 3, 1), (8, .iconst (-1), 1), (9, .if_icmp .eq 42, 3), (12, .aload_n 0, 1), (13, .getfield 30, 3), (16, .iload_n 3, 1), (17, .iconst (-1), 1), (18, .iastore, 1), (19, .aload_n 0, 1)] := by decide +kernel
theorem dX1_cover_0 : decode cX1_cover 0 = .ok (.aload_n 0, 1) := dz_at dqX1_cover_p050 0 rfl
theorem dX1_cover_1 : decode cX1_cover 1 = .ok (.getfield 9, 3) := dz_at dqX1_cover_p050 1 rfl
theorem dX1_cover_4 : decode cX1_cover 4 = .ok (.iload_n 1, 1) := dz_at dqX1_cover_p050 2 rfl
theorem dX1_cover_5 : decode cX1_cover 5 = .ok (.iaload, 1) := dz_at dqX1_cover_p050 3 rfl
theorem dX1_cover_6 : decode cX1_cover 6 = .ok (.istore_n 3, 1) := dz_at dqX1_cover_p050 4 rfl
theorem dX1_cover_7 : decode cX1_cover 7 = .ok (.iload_n 3, 1) := dz_at dqX1_cover_p050 5 rfl
theorem dX1_cover_8 : decode cX1_cover 8 = .ok (.iconst (-1), 1) := dz_at dqX1_cover_p050 6 rfl
theorem dX1_cover_9 : decode cX1_cover 9 = .ok (.if_icmp .eq 42, 3) := dz_at dqX1_cover_p050 7 rfl
theorem dX1_cover_12 : decode cX1_cover 12 = .ok (.aload_n 0, 1) := dz_at dqX1_cover_p050 8 rfl
theorem dX1_cover_13 : decode cX1_cover 13 = .ok (.getfield 30, 3) := dz_at dqX1_cover_p050 9 rfl
theorem dX1_cover_16 : decode cX1_cover 16 = .ok (.iload_n 3, 1) := dz_at dqX1_cover_p050 10 rfl
theorem dX1_cover_17 : decode cX1_cover 17 = .ok (.iconst (-1), 1) := dz_at dqX1_cover_p050 11 rfl
theorem dX1_cover_18 : decode cX1_cover 18 = .ok (.iastore, 1) := dz_at dqX1_cover_p050 12 rfl
theorem dX1_cover_19 : decode cX1_cover 19 = .ok (.aload_n 0, 1) := dz_at dqX1_cover_p050 13 rfl
set_option maxRecDepth 20000 in
theorem dqX1_cover_p051 : dz_rn 20 (cX1_cover.data.toList.drop 20) [(3, 0), (0, 1), (0, 4), (3, 0), (0, 1), (0, 10), (4, 12), (0, 3), (4, 0), (0, 13), (0, 22), (0, 4), (3, 0), (0, 1)] = some [(20, .getfield 18, 3), (23, .iload_n 1, 1), (24, .aload_n 0, 1), (25, .getfield 15, 3), (28, .iload_n 1, 1), (29, .iaload, 1), (30, .ifCond .le 7, 3), (33, .iload_n 3, 1), (34, .goto 4, 3), (37, .iconst (-1), 1), (38, .iastore, 1), (39, .aload_n 0, 1), (40, .getfield 21, 3), (43, .iload_n 1, 1)] := by decide +kernel
theorem dX1_cover_20 : decode cX1_cover 20 = .ok (.getfield 18, 3) := dz_at dqX1_cover_p051 0 rfl
theorem dX1_cover_23 : decode cX1_cover 23 = .ok (.iload_n 1, 1) := dz_at dqX1_cover_p051 1 rfl
theorem dX1_cover_24 : decode cX1_cover 24 = .ok (.aload_n 0, 1) := dz_at dqX1_cover_p051 2 rfl
theorem dX1_cover_25 : decode cX1_cover 25 = .ok (.getfield 15, 3) := dz_at dqX1_cover_p051 3 rfl
theorem dX1_cover_28 : decode cX1_cover 28 = .ok (.iload_n 1, 1) := dz_at dqX1_cover_p051 4 rfl
theorem dX1_cover_29 : decode cX1_cover 29 = .ok (.iaload, 1) := dz_at dqX1_cover_p051 5 rfl
theorem dX1_cover_30 : decode cX1_cover 30 = .ok (.ifCond .le 7, 3) := dz_at dqX1_cover_p051 6 rfl
theorem dX1_cover_33 : decode cX1_cover 33 = .ok (.iload_n 3, 1) := dz_at dqX1_cover_p051 7 rfl
theorem dX1_cover_34 : decode cX1_cover 34 = .ok (.goto 4, 3) := dz_at dqX1_cover_p051 8 rfl
theorem dX1_cover_37 : decode cX1_cover 37 = .ok (.iconst (-1), 1) := dz_at dqX1_cover_p051 9 rfl
theorem dX1_cover_38 : decode cX1_cover 38 = .ok (.iastore, 1) := dz_at dqX1_cover_p051 10 rfl
theorem dX1_cover_39 : decode cX1_cover 39 = .ok (.aload_n 0, 1) := dz_at dqX1_cover_p051 11 rfl
theorem dX1_cover_40 : decode cX1_cover 40 = .ok (.getfield 21, 3) := dz_at dqX1_cover_p051 12 rfl
theorem dX1_cover_43 : decode cX1_cover 43 = .ok (.iload_n 1, 1) := dz_at dqX1_cover_p051 13 rfl
set_option maxRecDepth 20000 in
theorem dqX1_cover_p052 : dz_rn 44 (cX1_cover.data.toList.drop 44) [(0, 4), (3, 0), (0, 1), (0, 10), (0, 22), (0, 4), (3, 0), (0, 1), (0, 2), (0, 22), (0, 4), (3, 0), (0, 1), (2, 0)] = some [(44, .aload_n 0, 1), (45, .getfield 15, 3), (48, .iload_n 1, 1), (49, .iaload, 1), (50, .iastore, 1), (51, .aload_n 0, 1), (52, .getfield 9, 3), (55, .iload_n 1, 1), (56, .iload_n 2, 1), (57, .iastore, 1), (58, .aload_n 0, 1), (59, .getfield 15, 3), (62, .iload_n 1, 1), (63, .bipush 100, 2)] := by decide +kernel
theorem dX1_cover_44 : decode cX1_cover 44 = .ok (.aload_n 0, 1) := dz_at dqX1_cover_p052 0 rfl
theorem dX1_cover_45 : decode cX1_cover 45 = .ok (.getfield 15, 3) := dz_at dqX1_cover_p052 1 rfl
theorem dX1_cover_48 : decode cX1_cover 48 = .ok (.iload_n 1, 1) := dz_at dqX1_cover_p052 2 rfl
theorem dX1_cover_49 : decode cX1_cover 49 = .ok (.iaload, 1) := dz_at dqX1_cover_p052 3 rfl
theorem dX1_cover_50 : decode cX1_cover 50 = .ok (.iastore, 1) := dz_at dqX1_cover_p052 4 rfl
theorem dX1_cover_51 : decode cX1_cover 51 = .ok (.aload_n 0, 1) := dz_at dqX1_cover_p052 5 rfl
theorem dX1_cover_52 : decode cX1_cover 52 = .ok (.getfield 9, 3) := dz_at dqX1_cover_p052 6 rfl
theorem dX1_cover_55 : decode cX1_cover 55 = .ok (.iload_n 1, 1) := dz_at dqX1_cover_p052 7 rfl
theorem dX1_cover_56 : decode cX1_cover 56 = .ok (.iload_n 2, 1) := dz_at dqX1_cover_p052 8 rfl
theorem dX1_cover_57 : decode cX1_cover 57 = .ok (.iastore, 1) := dz_at dqX1_cover_p052 9 rfl
theorem dX1_cover_58 : decode cX1_cover 58 = .ok (.aload_n 0, 1) := dz_at dqX1_cover_p052 10 rfl
theorem dX1_cover_59 : decode cX1_cover 59 = .ok (.getfield 15, 3) := dz_at dqX1_cover_p052 11 rfl
theorem dX1_cover_62 : decode cX1_cover 62 = .ok (.iload_n 1, 1) := dz_at dqX1_cover_p052 12 rfl
theorem dX1_cover_63 : decode cX1_cover 63 = .ok (.bipush 100, 2) := dz_at dqX1_cover_p052 13 rfl
set_option maxRecDepth 20000 in
theorem dqX1_cover_p053 : dz_rn 65 (cX1_cover.data.toList.drop 65) [(0, 22), (0, 4), (3, 0), (0, 1), (0, 4), (3, 0), (0, 22), (0, 4), (3, 0), (0, 2), (0, 1), (0, 22), (0, 25)] = some [(65, .iastore, 1), (66, .aload_n 0, 1), (67, .getfield 24, 3), (70, .iload_n 1, 1), (71, .aload_n 0, 1), (72, .getfield 62, 3), (75, .iastore, 1), (76, .aload_n 0, 1), (77, .getfield 30, 3), (80, .iload_n 2, 1), (81, .iload_n 1, 1), (82, .iastore, 1), (83, .return_, 1)] := by decide +kernel
theorem dX1_cover_65 : decode cX1_cover 65 = .ok (.iastore, 1) := dz_at dqX1_cover_p053 0 rfl
theorem dX1_cover_66 : decode cX1_cover 66 = .ok (.aload_n 0, 1) := dz_at dqX1_cover_p053 1 rfl
theorem dX1_cover_67 : decode cX1_cover 67 = .ok (.getfield 24, 3) := dz_at dqX1_cover_p053 2 rfl
theorem dX1_cover_70 : decode cX1_cover 70 = .ok (.iload_n 1, 1) := dz_at dqX1_cover_p053 3 rfl
theorem dX1_cover_71 : decode cX1_cover 71 = .ok (.aload_n 0, 1) := dz_at dqX1_cover_p053 4 rfl
theorem dX1_cover_72 : decode cX1_cover 72 = .ok (.getfield 62, 3) := dz_at dqX1_cover_p053 5 rfl
theorem dX1_cover_75 : decode cX1_cover 75 = .ok (.iastore, 1) := dz_at dqX1_cover_p053 6 rfl
theorem dX1_cover_76 : decode cX1_cover 76 = .ok (.aload_n 0, 1) := dz_at dqX1_cover_p053 7 rfl
theorem dX1_cover_77 : decode cX1_cover 77 = .ok (.getfield 30, 3) := dz_at dqX1_cover_p053 8 rfl
theorem dX1_cover_80 : decode cX1_cover 80 = .ok (.iload_n 2, 1) := dz_at dqX1_cover_p053 9 rfl
theorem dX1_cover_81 : decode cX1_cover 81 = .ok (.iload_n 1, 1) := dz_at dqX1_cover_p053 10 rfl
theorem dX1_cover_82 : decode cX1_cover 82 = .ok (.iastore, 1) := dz_at dqX1_cover_p053 11 rfl
theorem dX1_cover_83 : decode cX1_cover 83 = .ok (.return_, 1) := dz_at dqX1_cover_p053 12 rfl
set_option maxRecDepth 20000 in
theorem dqX1_takeOff_p050 : dz_rn 0 (cX1_takeOff.data.toList.drop 0) [(0, 4), (3, 0), (0, 1), (0, 10), (0, 20), (0, 2), (0, 13), (4, 1), (0, 4), (3, 0), (0, 2), (0, 13), (0, 22), (0, 4)] = some [(0, .aload_n 0, 1), (1, .getfield 9, 3), (4, .iload_n 1, 1), (5, .iaload, 1), (6, .istore_n 2, 1), (7, .iload_n 2, 1), (8, .iconst (-1), 1), (9, .if_icmp .eq 10, 3), (12, .aload_n 0, 1), (13, .getfield 30, 3), (16, .iload_n 2, 1), (17, .iconst (-1), 1), (18, .iastore, 1), (19, .aload_n 0, 1)] := by decide +kernel
theorem dX1_takeOff_0 : decode cX1_takeOff 0 = .ok (.aload_n 0, 1) := dz_at dqX1_takeOff_p050 0 rfl
theorem dX1_takeOff_1 : decode cX1_takeOff 1 = .ok (.getfield 9, 3) := dz_at dqX1_takeOff_p050 1 rfl
theorem dX1_takeOff_4 : decode cX1_takeOff 4 = .ok (.iload_n 1, 1) := dz_at dqX1_takeOff_p050 2 rfl
theorem dX1_takeOff_5 : decode cX1_takeOff 5 = .ok (.iaload, 1) := dz_at dqX1_takeOff_p050 3 rfl
theorem dX1_takeOff_6 : decode cX1_takeOff 6 = .ok (.istore_n 2, 1) := dz_at dqX1_takeOff_p050 4 rfl
theorem dX1_takeOff_7 : decode cX1_takeOff 7 = .ok (.iload_n 2, 1) := dz_at dqX1_takeOff_p050 5 rfl
theorem dX1_takeOff_8 : decode cX1_takeOff 8 = .ok (.iconst (-1), 1) := dz_at dqX1_takeOff_p050 6 rfl
theorem dX1_takeOff_9 : decode cX1_takeOff 9 = .ok (.if_icmp .eq 10, 3) := dz_at dqX1_takeOff_p050 7 rfl
theorem dX1_takeOff_12 : decode cX1_takeOff 12 = .ok (.aload_n 0, 1) := dz_at dqX1_takeOff_p050 8 rfl
theorem dX1_takeOff_13 : decode cX1_takeOff 13 = .ok (.getfield 30, 3) := dz_at dqX1_takeOff_p050 9 rfl
theorem dX1_takeOff_16 : decode cX1_takeOff 16 = .ok (.iload_n 2, 1) := dz_at dqX1_takeOff_p050 10 rfl
theorem dX1_takeOff_17 : decode cX1_takeOff 17 = .ok (.iconst (-1), 1) := dz_at dqX1_takeOff_p050 11 rfl
theorem dX1_takeOff_18 : decode cX1_takeOff 18 = .ok (.iastore, 1) := dz_at dqX1_takeOff_p050 12 rfl
theorem dX1_takeOff_19 : decode cX1_takeOff 19 = .ok (.aload_n 0, 1) := dz_at dqX1_takeOff_p050 13 rfl
set_option maxRecDepth 20000 in
theorem dqX1_takeOff_p051 : dz_rn 20 (cX1_takeOff.data.toList.drop 20) [(3, 0), (0, 1), (0, 13), (0, 22), (0, 4), (3, 0), (0, 1), (0, 13), (0, 22), (0, 25)] = some [(20, .getfield 9, 3), (23, .iload_n 1, 1), (24, .iconst (-1), 1), (25, .iastore, 1), (26, .aload_n 0, 1), (27, .getfield 18, 3), (30, .iload_n 1, 1), (31, .iconst (-1), 1), (32, .iastore, 1), (33, .return_, 1)] := by decide +kernel
theorem dX1_takeOff_20 : decode cX1_takeOff 20 = .ok (.getfield 9, 3) := dz_at dqX1_takeOff_p051 0 rfl
theorem dX1_takeOff_23 : decode cX1_takeOff 23 = .ok (.iload_n 1, 1) := dz_at dqX1_takeOff_p051 1 rfl
theorem dX1_takeOff_24 : decode cX1_takeOff 24 = .ok (.iconst (-1), 1) := dz_at dqX1_takeOff_p051 2 rfl
theorem dX1_takeOff_25 : decode cX1_takeOff 25 = .ok (.iastore, 1) := dz_at dqX1_takeOff_p051 3 rfl
theorem dX1_takeOff_26 : decode cX1_takeOff 26 = .ok (.aload_n 0, 1) := dz_at dqX1_takeOff_p051 4 rfl
theorem dX1_takeOff_27 : decode cX1_takeOff 27 = .ok (.getfield 18, 3) := dz_at dqX1_takeOff_p051 5 rfl
theorem dX1_takeOff_30 : decode cX1_takeOff 30 = .ok (.iload_n 1, 1) := dz_at dqX1_takeOff_p051 6 rfl
theorem dX1_takeOff_31 : decode cX1_takeOff 31 = .ok (.iconst (-1), 1) := dz_at dqX1_takeOff_p051 7 rfl
theorem dX1_takeOff_32 : decode cX1_takeOff 32 = .ok (.iastore, 1) := dz_at dqX1_takeOff_p051 8 rfl
theorem dX1_takeOff_33 : decode cX1_takeOff 33 = .ok (.return_, 1) := dz_at dqX1_takeOff_p051 9 rfl
set_option maxRecDepth 20000 in
theorem ggX1_passDays_X1_countCrowds : GoodIn wsX1_passDays wsX1_countCrowds := goodIn_r _ [8, 9, 10, 11, 12, 7, 13, 1, 14, 15, 16, 17, 18, 19, 20, 21, 22, 23, 24, 25, 26, 27, 28, 29, 30, 31, 32, 57, 58, 59, 60, 61, 62, 63, 64, 65, 66, 67, 68, 69, 70] rfl (by decide +kernel)
set_option maxRecDepth 20000 in
theorem gX1_passDays_X1_countCrowds : GoodIn wsX1_passDays (wsV RX1 65 RX1 yX1_countCrowds wsX1_countCrowds) := goodIn_app (goodIn_of _ (by decide +kernel)) ggX1_passDays_X1_countCrowds
set_option maxRecDepth 20000 in
theorem ggX1_passDays_X1_strengthBehind : GoodIn wsX1_passDays wsX1_strengthBehind := goodIn_r _ [36, 2, 9, 37, 38, 39, 7, 40, 41, 42, 43, 44, 45, 46, 47, 48, 49, 50, 57, 58, 59, 60, 61, 62, 63, 64, 65, 66, 67, 68, 69] rfl (by decide +kernel)
set_option maxRecDepth 20000 in
theorem gX1_passDays_X1_strengthBehind : GoodIn wsX1_passDays (wsV RX1 68 RX1 yX1_strengthBehind wsX1_strengthBehind) := goodIn_app (goodIn_of _ (by decide +kernel)) ggX1_passDays_X1_strengthBehind
set_option maxRecDepth 20000 in
theorem ggX1_passDays_X1_fadeGhost : GoodIn wsX1_passDays wsX1_fadeGhost := goodIn_r _ [54, 55, 56, 42, 43, 44, 7, 45, 46, 47, 48, 49, 50, 57, 58, 59, 60, 61, 62, 63, 64, 65, 66, 67, 68, 69] rfl (by decide +kernel)
set_option maxRecDepth 20000 in
theorem gX1_passDays_X1_fadeGhost : GoodIn wsX1_passDays (wsV RX1 72 RX1 yX1_fadeGhost wsX1_fadeGhost) := goodIn_app (goodIn_of _ (by decide +kernel)) ggX1_passDays_X1_fadeGhost
set_option maxRecDepth 20000 in
theorem dqX1_passDays_p050 : dz_rn 0 (cX1_passDays.data.toList.drop 0) [(0, 4), (3, 1), (0, 8), (0, 20), (0, 2), (2, 0), (4, 4), (0, 4), (3, 0), (0, 2), (0, 10), (0, 13), (4, 1), (0, 4)] = some [(0, .aload_n 0, 1), (1, .invokevirtual 65, 3), (4, .iconst 0, 1), (5, .istore_n 2, 1), (6, .iload_n 2, 1), (7, .bipush 48, 2), (9, .if_icmp .ge 38, 3), (12, .aload_n 0, 1), (13, .getfield 9, 3), (16, .iload_n 2, 1), (17, .iaload, 1), (18, .iconst (-1), 1), (19, .if_icmp .eq 16, 3), (22, .aload_n 0, 1)] := by decide +kernel
theorem dX1_passDays_0 : decode cX1_passDays 0 = .ok (.aload_n 0, 1) := dz_at dqX1_passDays_p050 0 rfl
theorem dX1_passDays_1 : decode cX1_passDays 1 = .ok (.invokevirtual 65, 3) := dz_at dqX1_passDays_p050 1 rfl
theorem dX1_passDays_4 : decode cX1_passDays 4 = .ok (.iconst 0, 1) := dz_at dqX1_passDays_p050 2 rfl
theorem dX1_passDays_5 : decode cX1_passDays 5 = .ok (.istore_n 2, 1) := dz_at dqX1_passDays_p050 3 rfl
theorem dX1_passDays_6 : decode cX1_passDays 6 = .ok (.iload_n 2, 1) := dz_at dqX1_passDays_p050 4 rfl
theorem dX1_passDays_7 : decode cX1_passDays 7 = .ok (.bipush 48, 2) := dz_at dqX1_passDays_p050 5 rfl
theorem dX1_passDays_9 : decode cX1_passDays 9 = .ok (.if_icmp .ge 38, 3) := dz_at dqX1_passDays_p050 6 rfl
theorem dX1_passDays_12 : decode cX1_passDays 12 = .ok (.aload_n 0, 1) := dz_at dqX1_passDays_p050 7 rfl
theorem dX1_passDays_13 : decode cX1_passDays 13 = .ok (.getfield 9, 3) := dz_at dqX1_passDays_p050 8 rfl
theorem dX1_passDays_16 : decode cX1_passDays 16 = .ok (.iload_n 2, 1) := dz_at dqX1_passDays_p050 9 rfl
theorem dX1_passDays_17 : decode cX1_passDays 17 = .ok (.iaload, 1) := dz_at dqX1_passDays_p050 10 rfl
theorem dX1_passDays_18 : decode cX1_passDays 18 = .ok (.iconst (-1), 1) := dz_at dqX1_passDays_p050 11 rfl
theorem dX1_passDays_19 : decode cX1_passDays 19 = .ok (.if_icmp .eq 16, 3) := dz_at dqX1_passDays_p050 12 rfl
theorem dX1_passDays_22 : decode cX1_passDays 22 = .ok (.aload_n 0, 1) := dz_at dqX1_passDays_p050 13 rfl
set_option maxRecDepth 20000 in
theorem dqX1_passDays_p051 : dz_rn 23 (cX1_passDays.data.toList.drop 23) [(3, 0), (0, 2), (0, 4), (0, 2), (0, 1), (0, 8), (3, 1), (0, 22), (0, 4), (0, 2), (0, 1), (3, 1), (5, 0), (4, 0)] = some [(23, .getfield 15, 3), (26, .iload_n 2, 1), (27, .aload_n 0, 1), (28, .iload_n 2, 1), (29, .iload_n 1, 1), (30, .iconst 0, 1), (31, .invokevirtual 68, 3), (34, .iastore, 1), (35, .aload_n 0, 1), (36, .iload_n 2, 1), (37, .iload_n 1, 1), (38, .invokevirtual 72, 3), (41, .iinc 2 1, 3), (44, .goto (-38), 3)] := by decide +kernel
theorem dX1_passDays_23 : decode cX1_passDays 23 = .ok (.getfield 15, 3) := dz_at dqX1_passDays_p051 0 rfl
theorem dX1_passDays_26 : decode cX1_passDays 26 = .ok (.iload_n 2, 1) := dz_at dqX1_passDays_p051 1 rfl
theorem dX1_passDays_27 : decode cX1_passDays 27 = .ok (.aload_n 0, 1) := dz_at dqX1_passDays_p051 2 rfl
theorem dX1_passDays_28 : decode cX1_passDays 28 = .ok (.iload_n 2, 1) := dz_at dqX1_passDays_p051 3 rfl
theorem dX1_passDays_29 : decode cX1_passDays 29 = .ok (.iload_n 1, 1) := dz_at dqX1_passDays_p051 4 rfl
theorem dX1_passDays_30 : decode cX1_passDays 30 = .ok (.iconst 0, 1) := dz_at dqX1_passDays_p051 5 rfl
theorem dX1_passDays_31 : decode cX1_passDays 31 = .ok (.invokevirtual 68, 3) := dz_at dqX1_passDays_p051 6 rfl
theorem dX1_passDays_34 : decode cX1_passDays 34 = .ok (.iastore, 1) := dz_at dqX1_passDays_p051 7 rfl
theorem dX1_passDays_35 : decode cX1_passDays 35 = .ok (.aload_n 0, 1) := dz_at dqX1_passDays_p051 8 rfl
theorem dX1_passDays_36 : decode cX1_passDays 36 = .ok (.iload_n 2, 1) := dz_at dqX1_passDays_p051 9 rfl
theorem dX1_passDays_37 : decode cX1_passDays 37 = .ok (.iload_n 1, 1) := dz_at dqX1_passDays_p051 10 rfl
theorem dX1_passDays_38 : decode cX1_passDays 38 = .ok (.invokevirtual 72, 3) := dz_at dqX1_passDays_p051 11 rfl
theorem dX1_passDays_41 : decode cX1_passDays 41 = .ok (.iinc 2 1, 3) := dz_at dqX1_passDays_p051 12 rfl
theorem dX1_passDays_44 : decode cX1_passDays 44 = .ok (.goto (-38), 3) := dz_at dqX1_passDays_p051 13 rfl
set_option maxRecDepth 20000 in
theorem dqX1_passDays_p052 : dz_rn 47 (cX1_passDays.data.toList.drop 47) [(0, 4), (0, 28), (3, 0), (0, 1), (0, 11), (3, 3), (0, 25)] = some [(47, .aload_n 0, 1), (48, .dup, 1), (49, .getfield 62, 3), (52, .iload_n 1, 1), (53, .iadd, 1), (54, .putfield 62, 3), (57, .return_, 1)] := by decide +kernel
theorem dX1_passDays_47 : decode cX1_passDays 47 = .ok (.aload_n 0, 1) := dz_at dqX1_passDays_p052 0 rfl
theorem dX1_passDays_48 : decode cX1_passDays 48 = .ok (.dup, 1) := dz_at dqX1_passDays_p052 1 rfl
theorem dX1_passDays_49 : decode cX1_passDays 49 = .ok (.getfield 62, 3) := dz_at dqX1_passDays_p052 2 rfl
theorem dX1_passDays_52 : decode cX1_passDays 52 = .ok (.iload_n 1, 1) := dz_at dqX1_passDays_p052 3 rfl
theorem dX1_passDays_53 : decode cX1_passDays 53 = .ok (.iadd, 1) := dz_at dqX1_passDays_p052 4 rfl
theorem dX1_passDays_54 : decode cX1_passDays 54 = .ok (.putfield 62, 3) := dz_at dqX1_passDays_p052 5 rfl
theorem dX1_passDays_57 : decode cX1_passDays 57 = .ok (.return_, 1) := dz_at dqX1_passDays_p052 6 rfl
set_option maxRecDepth 20000 in
theorem ggX1_fadeGhost_X1_fallen : GoodIn wsX1_fadeGhost wsX1_fallen := goodIn_r _ [7, 8, 9, 10, 11, 12, 13, 14, 15, 16, 17, 18, 19, 20, 21, 22, 23, 24, 25] rfl (by decide +kernel)
set_option maxRecDepth 20000 in
theorem gX1_fadeGhost_X1_fallen : GoodIn wsX1_fadeGhost (wsV RX1 76 RX1 yX1_fallen wsX1_fallen) := goodIn_app (goodIn_of _ (by decide +kernel)) ggX1_fadeGhost_X1_fallen
set_option maxRecDepth 20000 in
theorem dqX1_fadeGhost_p050 : dz_rn 0 (cX1_fadeGhost.data.toList.drop 0) [(0, 8), (0, 21), (0, 3), (0, 2), (4, 4), (0, 4), (3, 0), (0, 1), (0, 10), (0, 13), (4, 1), (0, 4), (3, 0), (0, 1)] = some [(0, .iconst 0, 1), (1, .istore_n 3, 1), (2, .iload_n 3, 1), (3, .iload_n 2, 1), (4, .if_icmp .ge 52, 3), (7, .aload_n 0, 1), (8, .getfield 18, 3), (11, .iload_n 1, 1), (12, .iaload, 1), (13, .iconst (-1), 1), (14, .if_icmp .eq 42, 3), (17, .aload_n 0, 1), (18, .getfield 21, 3), (21, .iload_n 1, 1)] := by decide +kernel
theorem dX1_fadeGhost_0 : decode cX1_fadeGhost 0 = .ok (.iconst 0, 1) := dz_at dqX1_fadeGhost_p050 0 rfl
theorem dX1_fadeGhost_1 : decode cX1_fadeGhost 1 = .ok (.istore_n 3, 1) := dz_at dqX1_fadeGhost_p050 1 rfl
theorem dX1_fadeGhost_2 : decode cX1_fadeGhost 2 = .ok (.iload_n 3, 1) := dz_at dqX1_fadeGhost_p050 2 rfl
theorem dX1_fadeGhost_3 : decode cX1_fadeGhost 3 = .ok (.iload_n 2, 1) := dz_at dqX1_fadeGhost_p050 3 rfl
theorem dX1_fadeGhost_4 : decode cX1_fadeGhost 4 = .ok (.if_icmp .ge 52, 3) := dz_at dqX1_fadeGhost_p050 4 rfl
theorem dX1_fadeGhost_7 : decode cX1_fadeGhost 7 = .ok (.aload_n 0, 1) := dz_at dqX1_fadeGhost_p050 5 rfl
theorem dX1_fadeGhost_8 : decode cX1_fadeGhost 8 = .ok (.getfield 18, 3) := dz_at dqX1_fadeGhost_p050 6 rfl
theorem dX1_fadeGhost_11 : decode cX1_fadeGhost 11 = .ok (.iload_n 1, 1) := dz_at dqX1_fadeGhost_p050 7 rfl
theorem dX1_fadeGhost_12 : decode cX1_fadeGhost 12 = .ok (.iaload, 1) := dz_at dqX1_fadeGhost_p050 8 rfl
theorem dX1_fadeGhost_13 : decode cX1_fadeGhost 13 = .ok (.iconst (-1), 1) := dz_at dqX1_fadeGhost_p050 9 rfl
theorem dX1_fadeGhost_14 : decode cX1_fadeGhost 14 = .ok (.if_icmp .eq 42, 3) := dz_at dqX1_fadeGhost_p050 10 rfl
theorem dX1_fadeGhost_17 : decode cX1_fadeGhost 17 = .ok (.aload_n 0, 1) := dz_at dqX1_fadeGhost_p050 11 rfl
theorem dX1_fadeGhost_18 : decode cX1_fadeGhost 18 = .ok (.getfield 21, 3) := dz_at dqX1_fadeGhost_p050 12 rfl
theorem dX1_fadeGhost_21 : decode cX1_fadeGhost 21 = .ok (.iload_n 1, 1) := dz_at dqX1_fadeGhost_p050 13 rfl
set_option maxRecDepth 20000 in
theorem dqX1_fadeGhost_p051 : dz_rn 22 (cX1_fadeGhost.data.toList.drop 22) [(0, 4), (0, 4), (3, 0), (0, 1), (0, 10), (0, 8), (3, 1), (0, 22), (0, 4), (3, 0), (0, 1), (0, 10), (4, 8), (0, 4)] = some [(22, .aload_n 0, 1), (23, .aload_n 0, 1), (24, .getfield 21, 3), (27, .iload_n 1, 1), (28, .iaload, 1), (29, .iconst 0, 1), (30, .invokevirtual 76, 3), (33, .iastore, 1), (34, .aload_n 0, 1), (35, .getfield 21, 3), (38, .iload_n 1, 1), (39, .iaload, 1), (40, .ifCond .ne 10, 3), (43, .aload_n 0, 1)] := by decide +kernel
theorem dX1_fadeGhost_22 : decode cX1_fadeGhost 22 = .ok (.aload_n 0, 1) := dz_at dqX1_fadeGhost_p051 0 rfl
theorem dX1_fadeGhost_23 : decode cX1_fadeGhost 23 = .ok (.aload_n 0, 1) := dz_at dqX1_fadeGhost_p051 1 rfl
theorem dX1_fadeGhost_24 : decode cX1_fadeGhost 24 = .ok (.getfield 21, 3) := dz_at dqX1_fadeGhost_p051 2 rfl
theorem dX1_fadeGhost_27 : decode cX1_fadeGhost 27 = .ok (.iload_n 1, 1) := dz_at dqX1_fadeGhost_p051 3 rfl
theorem dX1_fadeGhost_28 : decode cX1_fadeGhost 28 = .ok (.iaload, 1) := dz_at dqX1_fadeGhost_p051 4 rfl
theorem dX1_fadeGhost_29 : decode cX1_fadeGhost 29 = .ok (.iconst 0, 1) := dz_at dqX1_fadeGhost_p051 5 rfl
theorem dX1_fadeGhost_30 : decode cX1_fadeGhost 30 = .ok (.invokevirtual 76, 3) := dz_at dqX1_fadeGhost_p051 6 rfl
theorem dX1_fadeGhost_33 : decode cX1_fadeGhost 33 = .ok (.iastore, 1) := dz_at dqX1_fadeGhost_p051 7 rfl
theorem dX1_fadeGhost_34 : decode cX1_fadeGhost 34 = .ok (.aload_n 0, 1) := dz_at dqX1_fadeGhost_p051 8 rfl
theorem dX1_fadeGhost_35 : decode cX1_fadeGhost 35 = .ok (.getfield 21, 3) := dz_at dqX1_fadeGhost_p051 9 rfl
theorem dX1_fadeGhost_38 : decode cX1_fadeGhost 38 = .ok (.iload_n 1, 1) := dz_at dqX1_fadeGhost_p051 10 rfl
theorem dX1_fadeGhost_39 : decode cX1_fadeGhost 39 = .ok (.iaload, 1) := dz_at dqX1_fadeGhost_p051 11 rfl
theorem dX1_fadeGhost_40 : decode cX1_fadeGhost 40 = .ok (.ifCond .ne 10, 3) := dz_at dqX1_fadeGhost_p051 12 rfl
theorem dX1_fadeGhost_43 : decode cX1_fadeGhost 43 = .ok (.aload_n 0, 1) := dz_at dqX1_fadeGhost_p051 13 rfl
set_option maxRecDepth 20000 in
theorem dqX1_fadeGhost_p052 : dz_rn 44 (cX1_fadeGhost.data.toList.drop 44) [(3, 0), (0, 1), (0, 13), (0, 22), (5, 0), (4, 0), (0, 25)] = some [(44, .getfield 18, 3), (47, .iload_n 1, 1), (48, .iconst (-1), 1), (49, .iastore, 1), (50, .iinc 3 1, 3), (53, .goto (-51), 3), (56, .return_, 1)] := by decide +kernel
theorem dX1_fadeGhost_44 : decode cX1_fadeGhost 44 = .ok (.getfield 18, 3) := dz_at dqX1_fadeGhost_p052 0 rfl
theorem dX1_fadeGhost_47 : decode cX1_fadeGhost 47 = .ok (.iload_n 1, 1) := dz_at dqX1_fadeGhost_p052 1 rfl
theorem dX1_fadeGhost_48 : decode cX1_fadeGhost 48 = .ok (.iconst (-1), 1) := dz_at dqX1_fadeGhost_p052 2 rfl
theorem dX1_fadeGhost_49 : decode cX1_fadeGhost 49 = .ok (.iastore, 1) := dz_at dqX1_fadeGhost_p052 3 rfl
theorem dX1_fadeGhost_50 : decode cX1_fadeGhost 50 = .ok (.iinc 3 1, 3) := dz_at dqX1_fadeGhost_p052 4 rfl
theorem dX1_fadeGhost_53 : decode cX1_fadeGhost 53 = .ok (.goto (-51), 3) := dz_at dqX1_fadeGhost_p052 5 rfl
theorem dX1_fadeGhost_56 : decode cX1_fadeGhost 56 = .ok (.return_, 1) := dz_at dqX1_fadeGhost_p052 6 rfl
set_option maxRecDepth 20000 in
theorem ggX1_countCrowds_X1_crowds : GoodIn wsX1_countCrowds wsX1_crowds := goodIn_r _ [6, 7, 8, 9, 10, 5, 11, 12, 13, 14, 15, 16, 17, 18, 19, 20, 21, 22, 23, 24, 25, 26, 27, 28, 29, 30, 31, 32, 33, 34, 35, 36, 37, 38, 39, 40] rfl (by decide +kernel)
set_option maxRecDepth 20000 in
theorem gX1_countCrowds_X1_crowds : GoodIn wsX1_countCrowds (wsV RX1 79 RX1 yX1_crowds wsX1_crowds) := goodIn_app (goodIn_of _ (by decide +kernel)) ggX1_countCrowds_X1_crowds
set_option maxRecDepth 20000 in
theorem dqX1_countCrowds_p050 : dz_rn 0 (cX1_countCrowds.data.toList.drop 0) [(0, 8), (0, 19), (0, 1), (2, 0), (4, 4), (0, 4), (3, 0), (0, 1), (0, 8), (0, 22), (0, 1), (0, 1), (2, 0), (0, 30)] = some [(0, .iconst 0, 1), (1, .istore_n 1, 1), (2, .iload_n 1, 1), (3, .bipush 48, 2), (5, .if_icmp .ge 58, 3), (8, .aload_n 0, 1), (9, .getfield 27, 3), (12, .iload_n 1, 1), (13, .iconst 0, 1), (14, .iastore, 1), (15, .iload_n 1, 1), (16, .iload_n 1, 1), (17, .bipush 6, 2), (19, .irem, 1)] := by decide +kernel
theorem dX1_countCrowds_0 : decode cX1_countCrowds 0 = .ok (.iconst 0, 1) := dz_at dqX1_countCrowds_p050 0 rfl
theorem dX1_countCrowds_1 : decode cX1_countCrowds 1 = .ok (.istore_n 1, 1) := dz_at dqX1_countCrowds_p050 1 rfl
theorem dX1_countCrowds_2 : decode cX1_countCrowds 2 = .ok (.iload_n 1, 1) := dz_at dqX1_countCrowds_p050 2 rfl
theorem dX1_countCrowds_3 : decode cX1_countCrowds 3 = .ok (.bipush 48, 2) := dz_at dqX1_countCrowds_p050 3 rfl
theorem dX1_countCrowds_5 : decode cX1_countCrowds 5 = .ok (.if_icmp .ge 58, 3) := dz_at dqX1_countCrowds_p050 4 rfl
theorem dX1_countCrowds_8 : decode cX1_countCrowds 8 = .ok (.aload_n 0, 1) := dz_at dqX1_countCrowds_p050 5 rfl
theorem dX1_countCrowds_9 : decode cX1_countCrowds 9 = .ok (.getfield 27, 3) := dz_at dqX1_countCrowds_p050 6 rfl
theorem dX1_countCrowds_12 : decode cX1_countCrowds 12 = .ok (.iload_n 1, 1) := dz_at dqX1_countCrowds_p050 7 rfl
theorem dX1_countCrowds_13 : decode cX1_countCrowds 13 = .ok (.iconst 0, 1) := dz_at dqX1_countCrowds_p050 8 rfl
theorem dX1_countCrowds_14 : decode cX1_countCrowds 14 = .ok (.iastore, 1) := dz_at dqX1_countCrowds_p050 9 rfl
theorem dX1_countCrowds_15 : decode cX1_countCrowds 15 = .ok (.iload_n 1, 1) := dz_at dqX1_countCrowds_p050 10 rfl
theorem dX1_countCrowds_16 : decode cX1_countCrowds 16 = .ok (.iload_n 1, 1) := dz_at dqX1_countCrowds_p050 11 rfl
theorem dX1_countCrowds_17 : decode cX1_countCrowds 17 = .ok (.bipush 6, 2) := dz_at dqX1_countCrowds_p050 12 rfl
theorem dX1_countCrowds_19 : decode cX1_countCrowds 19 = .ok (.irem, 1) := dz_at dqX1_countCrowds_p050 13 rfl
set_option maxRecDepth 20000 in
theorem dqX1_countCrowds_p051 : dz_rn 20 (cX1_countCrowds.data.toList.drop 20) [(0, 26), (0, 20), (0, 2), (0, 21), (0, 3), (0, 2), (2, 0), (0, 11), (4, 4), (0, 4), (0, 3), (0, 1), (3, 1), (4, 7)] = some [(20, .isub, 1), (21, .istore_n 2, 1), (22, .iload_n 2, 1), (23, .istore_n 3, 1), (24, .iload_n 3, 1), (25, .iload_n 2, 1), (26, .bipush 6, 2), (28, .iadd, 1), (29, .if_icmp .ge 28, 3), (32, .aload_n 0, 1), (33, .iload_n 3, 1), (34, .iload_n 1, 1), (35, .invokevirtual 79, 3), (38, .ifCond .eq 13, 3)] := by decide +kernel
theorem dX1_countCrowds_20 : decode cX1_countCrowds 20 = .ok (.isub, 1) := dz_at dqX1_countCrowds_p051 0 rfl
theorem dX1_countCrowds_21 : decode cX1_countCrowds 21 = .ok (.istore_n 2, 1) := dz_at dqX1_countCrowds_p051 1 rfl
theorem dX1_countCrowds_22 : decode cX1_countCrowds 22 = .ok (.iload_n 2, 1) := dz_at dqX1_countCrowds_p051 2 rfl
theorem dX1_countCrowds_23 : decode cX1_countCrowds 23 = .ok (.istore_n 3, 1) := dz_at dqX1_countCrowds_p051 3 rfl
theorem dX1_countCrowds_24 : decode cX1_countCrowds 24 = .ok (.iload_n 3, 1) := dz_at dqX1_countCrowds_p051 4 rfl
theorem dX1_countCrowds_25 : decode cX1_countCrowds 25 = .ok (.iload_n 2, 1) := dz_at dqX1_countCrowds_p051 5 rfl
theorem dX1_countCrowds_26 : decode cX1_countCrowds 26 = .ok (.bipush 6, 2) := dz_at dqX1_countCrowds_p051 6 rfl
theorem dX1_countCrowds_28 : decode cX1_countCrowds 28 = .ok (.iadd, 1) := dz_at dqX1_countCrowds_p051 7 rfl
theorem dX1_countCrowds_29 : decode cX1_countCrowds 29 = .ok (.if_icmp .ge 28, 3) := dz_at dqX1_countCrowds_p051 8 rfl
theorem dX1_countCrowds_32 : decode cX1_countCrowds 32 = .ok (.aload_n 0, 1) := dz_at dqX1_countCrowds_p051 9 rfl
theorem dX1_countCrowds_33 : decode cX1_countCrowds 33 = .ok (.iload_n 3, 1) := dz_at dqX1_countCrowds_p051 10 rfl
theorem dX1_countCrowds_34 : decode cX1_countCrowds 34 = .ok (.iload_n 1, 1) := dz_at dqX1_countCrowds_p051 11 rfl
theorem dX1_countCrowds_35 : decode cX1_countCrowds 35 = .ok (.invokevirtual 79, 3) := dz_at dqX1_countCrowds_p051 12 rfl
theorem dX1_countCrowds_38 : decode cX1_countCrowds 38 = .ok (.ifCond .eq 13, 3) := dz_at dqX1_countCrowds_p051 13 rfl
set_option maxRecDepth 20000 in
theorem dqX1_countCrowds_p052 : dz_rn 41 (cX1_countCrowds.data.toList.drop 41) [(0, 4), (3, 0), (0, 1), (0, 41), (0, 10), (0, 9), (0, 11), (0, 22), (5, 0), (4, 0), (5, 0), (4, 0), (0, 25)] = some [(41, .aload_n 0, 1), (42, .getfield 27, 3), (45, .iload_n 1, 1), (46, .dup2, 1), (47, .iaload, 1), (48, .iconst 1, 1), (49, .iadd, 1), (50, .iastore, 1), (51, .iinc 3 1, 3), (54, .goto (-30), 3), (57, .iinc 1 1, 3), (60, .goto (-58), 3), (63, .return_, 1)] := by decide +kernel
theorem dX1_countCrowds_41 : decode cX1_countCrowds 41 = .ok (.aload_n 0, 1) := dz_at dqX1_countCrowds_p052 0 rfl
theorem dX1_countCrowds_42 : decode cX1_countCrowds 42 = .ok (.getfield 27, 3) := dz_at dqX1_countCrowds_p052 1 rfl
theorem dX1_countCrowds_45 : decode cX1_countCrowds 45 = .ok (.iload_n 1, 1) := dz_at dqX1_countCrowds_p052 2 rfl
theorem dX1_countCrowds_46 : decode cX1_countCrowds 46 = .ok (.dup2, 1) := dz_at dqX1_countCrowds_p052 3 rfl
theorem dX1_countCrowds_47 : decode cX1_countCrowds 47 = .ok (.iaload, 1) := dz_at dqX1_countCrowds_p052 4 rfl
theorem dX1_countCrowds_48 : decode cX1_countCrowds 48 = .ok (.iconst 1, 1) := dz_at dqX1_countCrowds_p052 5 rfl
theorem dX1_countCrowds_49 : decode cX1_countCrowds 49 = .ok (.iadd, 1) := dz_at dqX1_countCrowds_p052 6 rfl
theorem dX1_countCrowds_50 : decode cX1_countCrowds 50 = .ok (.iastore, 1) := dz_at dqX1_countCrowds_p052 7 rfl
theorem dX1_countCrowds_51 : decode cX1_countCrowds 51 = .ok (.iinc 3 1, 3) := dz_at dqX1_countCrowds_p052 8 rfl
theorem dX1_countCrowds_54 : decode cX1_countCrowds 54 = .ok (.goto (-30), 3) := dz_at dqX1_countCrowds_p052 9 rfl
theorem dX1_countCrowds_57 : decode cX1_countCrowds 57 = .ok (.iinc 1 1, 3) := dz_at dqX1_countCrowds_p052 10 rfl
theorem dX1_countCrowds_60 : decode cX1_countCrowds 60 = .ok (.goto (-58), 3) := dz_at dqX1_countCrowds_p052 11 rfl
theorem dX1_countCrowds_63 : decode cX1_countCrowds 63 = .ok (.return_, 1) := dz_at dqX1_countCrowds_p052 12 rfl
set_option maxRecDepth 20000 in
theorem ggX1_crowds_X1_muchAlike : GoodIn wsX1_crowds wsX1_muchAlike := goodIn_r _ [6, 7, 8, 9, 10, 11, 12, 13, 14, 15, 16, 17, 18, 19, 20, 21, 22, 23, 24, 25, 26, 27, 28, 29, 30, 31, 32, 33, 34, 35] rfl (by decide +kernel)
set_option maxRecDepth 20000 in
theorem gX1_crowds_X1_muchAlike : GoodIn wsX1_crowds (wsV RX1 83 RX1 yX1_muchAlike wsX1_muchAlike) := goodIn_app (goodIn_of _ (by decide +kernel)) ggX1_crowds_X1_muchAlike
set_option maxRecDepth 20000 in
theorem dqX1_crowds_p050 : dz_rn 0 (cX1_crowds.data.toList.drop 0) [(0, 1), (0, 2), (4, 1), (0, 4), (3, 0), (0, 1), (0, 10), (0, 13), (4, 1), (0, 4), (3, 0), (0, 2), (0, 10), (0, 13)] = some [(0, .iload_n 1, 1), (1, .iload_n 2, 1), (2, .if_icmp .eq 46, 3), (5, .aload_n 0, 1), (6, .getfield 9, 3), (9, .iload_n 1, 1), (10, .iaload, 1), (11, .iconst (-1), 1), (12, .if_icmp .eq 36, 3), (15, .aload_n 0, 1), (16, .getfield 9, 3), (19, .iload_n 2, 1), (20, .iaload, 1), (21, .iconst (-1), 1)] := by decide +kernel
theorem dX1_crowds_0 : decode cX1_crowds 0 = .ok (.iload_n 1, 1) := dz_at dqX1_crowds_p050 0 rfl
theorem dX1_crowds_1 : decode cX1_crowds 1 = .ok (.iload_n 2, 1) := dz_at dqX1_crowds_p050 1 rfl
theorem dX1_crowds_2 : decode cX1_crowds 2 = .ok (.if_icmp .eq 46, 3) := dz_at dqX1_crowds_p050 2 rfl
theorem dX1_crowds_5 : decode cX1_crowds 5 = .ok (.aload_n 0, 1) := dz_at dqX1_crowds_p050 3 rfl
theorem dX1_crowds_6 : decode cX1_crowds 6 = .ok (.getfield 9, 3) := dz_at dqX1_crowds_p050 4 rfl
theorem dX1_crowds_9 : decode cX1_crowds 9 = .ok (.iload_n 1, 1) := dz_at dqX1_crowds_p050 5 rfl
theorem dX1_crowds_10 : decode cX1_crowds 10 = .ok (.iaload, 1) := dz_at dqX1_crowds_p050 6 rfl
theorem dX1_crowds_11 : decode cX1_crowds 11 = .ok (.iconst (-1), 1) := dz_at dqX1_crowds_p050 7 rfl
theorem dX1_crowds_12 : decode cX1_crowds 12 = .ok (.if_icmp .eq 36, 3) := dz_at dqX1_crowds_p050 8 rfl
theorem dX1_crowds_15 : decode cX1_crowds 15 = .ok (.aload_n 0, 1) := dz_at dqX1_crowds_p050 9 rfl
theorem dX1_crowds_16 : decode cX1_crowds 16 = .ok (.getfield 9, 3) := dz_at dqX1_crowds_p050 10 rfl
theorem dX1_crowds_19 : decode cX1_crowds 19 = .ok (.iload_n 2, 1) := dz_at dqX1_crowds_p050 11 rfl
theorem dX1_crowds_20 : decode cX1_crowds 20 = .ok (.iaload, 1) := dz_at dqX1_crowds_p050 12 rfl
theorem dX1_crowds_21 : decode cX1_crowds 21 = .ok (.iconst (-1), 1) := dz_at dqX1_crowds_p050 13 rfl
set_option maxRecDepth 20000 in
theorem dqX1_crowds_p051 : dz_rn 22 (cX1_crowds.data.toList.drop 22) [(4, 1), (0, 4), (0, 4), (3, 0), (0, 1), (0, 10), (0, 4), (3, 0), (0, 2), (0, 10), (3, 1), (4, 7), (0, 9), (4, 0)] = some [(22, .if_icmp .eq 26, 3), (25, .aload_n 0, 1), (26, .aload_n 0, 1), (27, .getfield 9, 3), (30, .iload_n 1, 1), (31, .iaload, 1), (32, .aload_n 0, 1), (33, .getfield 9, 3), (36, .iload_n 2, 1), (37, .iaload, 1), (38, .invokevirtual 83, 3), (41, .ifCond .eq 7, 3), (44, .iconst 1, 1), (45, .goto 4, 3)] := by decide +kernel
theorem dX1_crowds_22 : decode cX1_crowds 22 = .ok (.if_icmp .eq 26, 3) := dz_at dqX1_crowds_p051 0 rfl
theorem dX1_crowds_25 : decode cX1_crowds 25 = .ok (.aload_n 0, 1) := dz_at dqX1_crowds_p051 1 rfl
theorem dX1_crowds_26 : decode cX1_crowds 26 = .ok (.aload_n 0, 1) := dz_at dqX1_crowds_p051 2 rfl
theorem dX1_crowds_27 : decode cX1_crowds 27 = .ok (.getfield 9, 3) := dz_at dqX1_crowds_p051 3 rfl
theorem dX1_crowds_30 : decode cX1_crowds 30 = .ok (.iload_n 1, 1) := dz_at dqX1_crowds_p051 4 rfl
theorem dX1_crowds_31 : decode cX1_crowds 31 = .ok (.iaload, 1) := dz_at dqX1_crowds_p051 5 rfl
theorem dX1_crowds_32 : decode cX1_crowds 32 = .ok (.aload_n 0, 1) := dz_at dqX1_crowds_p051 6 rfl
theorem dX1_crowds_33 : decode cX1_crowds 33 = .ok (.getfield 9, 3) := dz_at dqX1_crowds_p051 7 rfl
theorem dX1_crowds_36 : decode cX1_crowds 36 = .ok (.iload_n 2, 1) := dz_at dqX1_crowds_p051 8 rfl
theorem dX1_crowds_37 : decode cX1_crowds 37 = .ok (.iaload, 1) := dz_at dqX1_crowds_p051 9 rfl
theorem dX1_crowds_38 : decode cX1_crowds 38 = .ok (.invokevirtual 83, 3) := dz_at dqX1_crowds_p051 10 rfl
theorem dX1_crowds_41 : decode cX1_crowds 41 = .ok (.ifCond .eq 7, 3) := dz_at dqX1_crowds_p051 11 rfl
theorem dX1_crowds_44 : decode cX1_crowds 44 = .ok (.iconst 1, 1) := dz_at dqX1_crowds_p051 12 rfl
theorem dX1_crowds_45 : decode cX1_crowds 45 = .ok (.goto 4, 3) := dz_at dqX1_crowds_p051 13 rfl
set_option maxRecDepth 20000 in
theorem dqX1_crowds_p052 : dz_rn 48 (cX1_crowds.data.toList.drop 48) [(0, 8), (0, 12)] = some [(48, .iconst 0, 1), (49, .ireturn, 1)] := by decide +kernel
theorem dX1_crowds_48 : decode cX1_crowds 48 = .ok (.iconst 0, 1) := dz_at dqX1_crowds_p052 0 rfl
theorem dX1_crowds_49 : decode cX1_crowds 49 = .ok (.ireturn, 1) := dz_at dqX1_crowds_p052 1 rfl
set_option maxRecDepth 20000 in
theorem ggX1_strengthBehind_X1_gainOf : GoodIn wsX1_strengthBehind wsX1_gainOf := goodIn_r _ [7, 8, 18, 19, 20, 21, 22, 23, 24, 25, 26, 27, 28, 29, 30] rfl (by decide +kernel)
set_option maxRecDepth 20000 in
theorem gX1_strengthBehind_X1_gainOf : GoodIn wsX1_strengthBehind (wsV RX1 86 RX1 yX1_gainOf wsX1_gainOf) := goodIn_app (goodIn_of _ (by decide +kernel)) ggX1_strengthBehind_X1_gainOf
set_option maxRecDepth 20000 in
theorem ggX1_strengthBehind_X1_fallen : GoodIn wsX1_strengthBehind wsX1_fallen := goodIn_r _ [12, 13, 14, 15, 16, 17, 18, 19, 20, 21, 22, 23, 24, 25, 26, 27, 28, 29, 30] rfl (by decide +kernel)
set_option maxRecDepth 20000 in
theorem gX1_strengthBehind_X1_fallen : GoodIn wsX1_strengthBehind (wsV RX1 76 RX1 yX1_fallen wsX1_fallen) := goodIn_app (goodIn_of _ (by decide +kernel)) ggX1_strengthBehind_X1_fallen
set_option maxRecDepth 20000 in
theorem dqX1_strengthBehind_p050 : dz_rn 0 (cX1_strengthBehind.data.toList.drop 0) [(0, 4), (3, 0), (0, 1), (0, 10), (1, 1), (0, 8), (1, 1), (1, 0), (0, 2), (4, 4), (0, 3), (1, 0), (0, 32), (0, 9)] = some [(0, .aload_n 0, 1), (1, .getfield 15, 3), (4, .iload_n 1, 1), (5, .iaload, 1), (6, .istore 4, 2), (8, .iconst 0, 1), (9, .istore 5, 2), (11, .iload 5, 2), (13, .iload_n 2, 1), (14, .if_icmp .ge 44, 3), (17, .iload_n 3, 1), (18, .iload 5, 2), (20, .ishr, 1), (21, .iconst 1, 1)] := by decide +kernel
theorem dX1_strengthBehind_0 : decode cX1_strengthBehind 0 = .ok (.aload_n 0, 1) := dz_at dqX1_strengthBehind_p050 0 rfl
theorem dX1_strengthBehind_1 : decode cX1_strengthBehind 1 = .ok (.getfield 15, 3) := dz_at dqX1_strengthBehind_p050 1 rfl
theorem dX1_strengthBehind_4 : decode cX1_strengthBehind 4 = .ok (.iload_n 1, 1) := dz_at dqX1_strengthBehind_p050 2 rfl
theorem dX1_strengthBehind_5 : decode cX1_strengthBehind 5 = .ok (.iaload, 1) := dz_at dqX1_strengthBehind_p050 3 rfl
theorem dX1_strengthBehind_6 : decode cX1_strengthBehind 6 = .ok (.istore 4, 2) := dz_at dqX1_strengthBehind_p050 4 rfl
theorem dX1_strengthBehind_8 : decode cX1_strengthBehind 8 = .ok (.iconst 0, 1) := dz_at dqX1_strengthBehind_p050 5 rfl
theorem dX1_strengthBehind_9 : decode cX1_strengthBehind 9 = .ok (.istore 5, 2) := dz_at dqX1_strengthBehind_p050 6 rfl
theorem dX1_strengthBehind_11 : decode cX1_strengthBehind 11 = .ok (.iload 5, 2) := dz_at dqX1_strengthBehind_p050 7 rfl
theorem dX1_strengthBehind_13 : decode cX1_strengthBehind 13 = .ok (.iload_n 2, 1) := dz_at dqX1_strengthBehind_p050 8 rfl
theorem dX1_strengthBehind_14 : decode cX1_strengthBehind 14 = .ok (.if_icmp .ge 44, 3) := dz_at dqX1_strengthBehind_p050 9 rfl
theorem dX1_strengthBehind_17 : decode cX1_strengthBehind 17 = .ok (.iload_n 3, 1) := dz_at dqX1_strengthBehind_p050 10 rfl
theorem dX1_strengthBehind_18 : decode cX1_strengthBehind 18 = .ok (.iload 5, 2) := dz_at dqX1_strengthBehind_p050 11 rfl
theorem dX1_strengthBehind_20 : decode cX1_strengthBehind 20 = .ok (.ishr, 1) := dz_at dqX1_strengthBehind_p050 12 rfl
theorem dX1_strengthBehind_21 : decode cX1_strengthBehind 21 = .ok (.iconst 1, 1) := dz_at dqX1_strengthBehind_p050 13 rfl
set_option maxRecDepth 20000 in
theorem dqX1_strengthBehind_p051 : dz_rn 22 (cX1_strengthBehind.data.toList.drop 22) [(0, 29), (0, 9), (4, 2), (1, 0), (0, 4), (1, 0), (3, 1), (0, 11), (1, 1), (0, 4), (1, 0), (0, 4), (3, 0), (0, 1)] = some [(22, .iand, 1), (23, .iconst 1, 1), (24, .if_icmp .ne 14, 3), (27, .iload 4, 2), (29, .aload_n 0, 1), (30, .iload 4, 2), (32, .invokevirtual 86, 3), (35, .iadd, 1), (36, .istore 4, 2), (38, .aload_n 0, 1), (39, .iload 4, 2), (41, .aload_n 0, 1), (42, .getfield 27, 3), (45, .iload_n 1, 1)] := by decide +kernel
theorem dX1_strengthBehind_22 : decode cX1_strengthBehind 22 = .ok (.iand, 1) := dz_at dqX1_strengthBehind_p051 0 rfl
theorem dX1_strengthBehind_23 : decode cX1_strengthBehind 23 = .ok (.iconst 1, 1) := dz_at dqX1_strengthBehind_p051 1 rfl
theorem dX1_strengthBehind_24 : decode cX1_strengthBehind 24 = .ok (.if_icmp .ne 14, 3) := dz_at dqX1_strengthBehind_p051 2 rfl
theorem dX1_strengthBehind_27 : decode cX1_strengthBehind 27 = .ok (.iload 4, 2) := dz_at dqX1_strengthBehind_p051 3 rfl
theorem dX1_strengthBehind_29 : decode cX1_strengthBehind 29 = .ok (.aload_n 0, 1) := dz_at dqX1_strengthBehind_p051 4 rfl
theorem dX1_strengthBehind_30 : decode cX1_strengthBehind 30 = .ok (.iload 4, 2) := dz_at dqX1_strengthBehind_p051 5 rfl
theorem dX1_strengthBehind_32 : decode cX1_strengthBehind 32 = .ok (.invokevirtual 86, 3) := dz_at dqX1_strengthBehind_p051 6 rfl
theorem dX1_strengthBehind_35 : decode cX1_strengthBehind 35 = .ok (.iadd, 1) := dz_at dqX1_strengthBehind_p051 7 rfl
theorem dX1_strengthBehind_36 : decode cX1_strengthBehind 36 = .ok (.istore 4, 2) := dz_at dqX1_strengthBehind_p051 8 rfl
theorem dX1_strengthBehind_38 : decode cX1_strengthBehind 38 = .ok (.aload_n 0, 1) := dz_at dqX1_strengthBehind_p051 9 rfl
theorem dX1_strengthBehind_39 : decode cX1_strengthBehind 39 = .ok (.iload 4, 2) := dz_at dqX1_strengthBehind_p051 10 rfl
theorem dX1_strengthBehind_41 : decode cX1_strengthBehind 41 = .ok (.aload_n 0, 1) := dz_at dqX1_strengthBehind_p051 11 rfl
theorem dX1_strengthBehind_42 : decode cX1_strengthBehind 42 = .ok (.getfield 27, 3) := dz_at dqX1_strengthBehind_p051 12 rfl
theorem dX1_strengthBehind_45 : decode cX1_strengthBehind 45 = .ok (.iload_n 1, 1) := dz_at dqX1_strengthBehind_p051 13 rfl
set_option maxRecDepth 20000 in
theorem dqX1_strengthBehind_p052 : dz_rn 46 (cX1_strengthBehind.data.toList.drop 46) [(0, 10), (3, 1), (1, 1), (5, 0), (4, 0), (1, 0), (0, 12)] = some [(46, .iaload, 1), (47, .invokevirtual 76, 3), (50, .istore 4, 2), (52, .iinc 5 1, 3), (55, .goto (-44), 3), (58, .iload 4, 2), (60, .ireturn, 1)] := by decide +kernel
theorem dX1_strengthBehind_46 : decode cX1_strengthBehind 46 = .ok (.iaload, 1) := dz_at dqX1_strengthBehind_p052 0 rfl
theorem dX1_strengthBehind_47 : decode cX1_strengthBehind 47 = .ok (.invokevirtual 76, 3) := dz_at dqX1_strengthBehind_p052 1 rfl
theorem dX1_strengthBehind_50 : decode cX1_strengthBehind 50 = .ok (.istore 4, 2) := dz_at dqX1_strengthBehind_p052 2 rfl
theorem dX1_strengthBehind_52 : decode cX1_strengthBehind 52 = .ok (.iinc 5 1, 3) := dz_at dqX1_strengthBehind_p052 3 rfl
theorem dX1_strengthBehind_55 : decode cX1_strengthBehind 55 = .ok (.goto (-44), 3) := dz_at dqX1_strengthBehind_p052 4 rfl
theorem dX1_strengthBehind_58 : decode cX1_strengthBehind 58 = .ok (.iload 4, 2) := dz_at dqX1_strengthBehind_p052 5 rfl
theorem dX1_strengthBehind_60 : decode cX1_strengthBehind 60 = .ok (.ireturn, 1) := dz_at dqX1_strengthBehind_p052 6 rfl
set_option maxRecDepth 20000 in
theorem dqX1_fallen_p050 : dz_rn 0 (cX1_fallen.data.toList.drop 0) [(0, 8), (0, 1), (0, 4), (3, 0), (0, 1), (2, 0), (0, 27), (0, 10), (0, 26), (0, 2), (0, 26), (3, 2), (0, 12)] = some [(0, .iconst 0, 1), (1, .iload_n 1, 1), (2, .aload_n 0, 1), (3, .getfield 36, 3), (6, .iload_n 1, 1), (7, .bipush 10, 2), (9, .idiv, 1), (10, .iaload, 1), (11, .isub, 1), (12, .iload_n 2, 1), (13, .isub, 1), (14, .invokestatic 90, 3), (17, .ireturn, 1)] := by decide +kernel
theorem dX1_fallen_0 : decode cX1_fallen 0 = .ok (.iconst 0, 1) := dz_at dqX1_fallen_p050 0 rfl
theorem dX1_fallen_1 : decode cX1_fallen 1 = .ok (.iload_n 1, 1) := dz_at dqX1_fallen_p050 1 rfl
theorem dX1_fallen_2 : decode cX1_fallen 2 = .ok (.aload_n 0, 1) := dz_at dqX1_fallen_p050 2 rfl
theorem dX1_fallen_3 : decode cX1_fallen 3 = .ok (.getfield 36, 3) := dz_at dqX1_fallen_p050 3 rfl
theorem dX1_fallen_6 : decode cX1_fallen 6 = .ok (.iload_n 1, 1) := dz_at dqX1_fallen_p050 4 rfl
theorem dX1_fallen_7 : decode cX1_fallen 7 = .ok (.bipush 10, 2) := dz_at dqX1_fallen_p050 5 rfl
theorem dX1_fallen_9 : decode cX1_fallen 9 = .ok (.idiv, 1) := dz_at dqX1_fallen_p050 6 rfl
theorem dX1_fallen_10 : decode cX1_fallen 10 = .ok (.iaload, 1) := dz_at dqX1_fallen_p050 7 rfl
theorem dX1_fallen_11 : decode cX1_fallen 11 = .ok (.isub, 1) := dz_at dqX1_fallen_p050 8 rfl
theorem dX1_fallen_12 : decode cX1_fallen 12 = .ok (.iload_n 2, 1) := dz_at dqX1_fallen_p050 9 rfl
theorem dX1_fallen_13 : decode cX1_fallen 13 = .ok (.isub, 1) := dz_at dqX1_fallen_p050 10 rfl
theorem dX1_fallen_14 : decode cX1_fallen 14 = .ok (.invokestatic 90, 3) := dz_at dqX1_fallen_p050 11 rfl
theorem dX1_fallen_17 : decode cX1_fallen 17 = .ok (.ireturn, 1) := dz_at dqX1_fallen_p050 12 rfl
set_option maxRecDepth 20000 in
theorem dqX1_gainOf_p050 : dz_rn 0 (cX1_gainOf.data.toList.drop 0) [(2, 0), (0, 1), (0, 26), (0, 4), (3, 0), (0, 23), (2, 0), (0, 27), (0, 12)] = some [(0, .bipush 100, 2), (2, .iload_n 1, 1), (3, .isub, 1), (4, .aload_n 0, 1), (5, .getfield 43, 3), (8, .imul, 1), (9, .bipush 100, 2), (11, .idiv, 1), (12, .ireturn, 1)] := by decide +kernel
theorem dX1_gainOf_0 : decode cX1_gainOf 0 = .ok (.bipush 100, 2) := dz_at dqX1_gainOf_p050 0 rfl
theorem dX1_gainOf_2 : decode cX1_gainOf 2 = .ok (.iload_n 1, 1) := dz_at dqX1_gainOf_p050 1 rfl
theorem dX1_gainOf_3 : decode cX1_gainOf 3 = .ok (.isub, 1) := dz_at dqX1_gainOf_p050 2 rfl
theorem dX1_gainOf_4 : decode cX1_gainOf 4 = .ok (.aload_n 0, 1) := dz_at dqX1_gainOf_p050 3 rfl
theorem dX1_gainOf_5 : decode cX1_gainOf 5 = .ok (.getfield 43, 3) := dz_at dqX1_gainOf_p050 4 rfl
theorem dX1_gainOf_8 : decode cX1_gainOf 8 = .ok (.imul, 1) := dz_at dqX1_gainOf_p050 5 rfl
theorem dX1_gainOf_9 : decode cX1_gainOf 9 = .ok (.bipush 100, 2) := dz_at dqX1_gainOf_p050 6 rfl
theorem dX1_gainOf_11 : decode cX1_gainOf 11 = .ok (.idiv, 1) := dz_at dqX1_gainOf_p050 7 rfl
theorem dX1_gainOf_12 : decode cX1_gainOf 12 = .ok (.ireturn, 1) := dz_at dqX1_gainOf_p050 8 rfl
set_option maxRecDepth 20000 in
theorem ggX1_walkPast_X1_gainOf : GoodIn wsX1_walkPast wsX1_gainOf := goodIn_r _ [9, 10, 11, 12, 13, 14, 15, 16, 17, 18, 19, 20, 21, 22, 23] rfl (by decide +kernel)
set_option maxRecDepth 20000 in
theorem gX1_walkPast_X1_gainOf : GoodIn wsX1_walkPast (wsV RX1 86 RX1 yX1_gainOf wsX1_gainOf) := goodIn_app (goodIn_of _ (by decide +kernel)) ggX1_walkPast_X1_gainOf
set_option maxRecDepth 20000 in
theorem dqX1_walkPast_p050 : dz_rn 0 (cX1_walkPast.data.toList.drop 0) [(0, 8), (0, 20), (0, 1), (2, 0), (0, 23), (0, 21), (0, 3), (1, 1), (1, 0), (0, 3), (2, 0), (0, 11), (4, 4), (0, 4)] = some [(0, .iconst 0, 1), (1, .istore_n 2, 1), (2, .iload_n 1, 1), (3, .bipush 6, 2), (5, .imul, 1), (6, .istore_n 3, 1), (7, .iload_n 3, 1), (8, .istore 4, 2), (10, .iload 4, 2), (12, .iload_n 3, 1), (13, .bipush 6, 2), (15, .iadd, 1), (16, .if_icmp .ge 50, 3), (19, .aload_n 0, 1)] := by decide +kernel
theorem dX1_walkPast_0 : decode cX1_walkPast 0 = .ok (.iconst 0, 1) := dz_at dqX1_walkPast_p050 0 rfl
theorem dX1_walkPast_1 : decode cX1_walkPast 1 = .ok (.istore_n 2, 1) := dz_at dqX1_walkPast_p050 1 rfl
theorem dX1_walkPast_2 : decode cX1_walkPast 2 = .ok (.iload_n 1, 1) := dz_at dqX1_walkPast_p050 2 rfl
theorem dX1_walkPast_3 : decode cX1_walkPast 3 = .ok (.bipush 6, 2) := dz_at dqX1_walkPast_p050 3 rfl
theorem dX1_walkPast_5 : decode cX1_walkPast 5 = .ok (.imul, 1) := dz_at dqX1_walkPast_p050 4 rfl
theorem dX1_walkPast_6 : decode cX1_walkPast 6 = .ok (.istore_n 3, 1) := dz_at dqX1_walkPast_p050 5 rfl
theorem dX1_walkPast_7 : decode cX1_walkPast 7 = .ok (.iload_n 3, 1) := dz_at dqX1_walkPast_p050 6 rfl
theorem dX1_walkPast_8 : decode cX1_walkPast 8 = .ok (.istore 4, 2) := dz_at dqX1_walkPast_p050 7 rfl
theorem dX1_walkPast_10 : decode cX1_walkPast 10 = .ok (.iload 4, 2) := dz_at dqX1_walkPast_p050 8 rfl
theorem dX1_walkPast_12 : decode cX1_walkPast 12 = .ok (.iload_n 3, 1) := dz_at dqX1_walkPast_p050 9 rfl
theorem dX1_walkPast_13 : decode cX1_walkPast 13 = .ok (.bipush 6, 2) := dz_at dqX1_walkPast_p050 10 rfl
theorem dX1_walkPast_15 : decode cX1_walkPast 15 = .ok (.iadd, 1) := dz_at dqX1_walkPast_p050 11 rfl
theorem dX1_walkPast_16 : decode cX1_walkPast 16 = .ok (.if_icmp .ge 50, 3) := dz_at dqX1_walkPast_p050 12 rfl
theorem dX1_walkPast_19 : decode cX1_walkPast 19 = .ok (.aload_n 0, 1) := dz_at dqX1_walkPast_p050 13 rfl
set_option maxRecDepth 20000 in
theorem dqX1_walkPast_p051 : dz_rn 20 (cX1_walkPast.data.toList.drop 20) [(3, 0), (1, 0), (0, 10), (0, 13), (4, 1), (0, 4), (0, 4), (3, 0), (1, 0), (0, 10), (3, 1), (1, 1), (0, 4), (3, 0)] = some [(20, .getfield 9, 3), (23, .iload 4, 2), (25, .iaload, 1), (26, .iconst (-1), 1), (27, .if_icmp .eq 33, 3), (30, .aload_n 0, 1), (31, .aload_n 0, 1), (32, .getfield 15, 3), (35, .iload 4, 2), (37, .iaload, 1), (38, .invokevirtual 86, 3), (41, .istore 5, 2), (43, .aload_n 0, 1), (44, .getfield 15, 3)] := by decide +kernel
theorem dX1_walkPast_20 : decode cX1_walkPast 20 = .ok (.getfield 9, 3) := dz_at dqX1_walkPast_p051 0 rfl
theorem dX1_walkPast_23 : decode cX1_walkPast 23 = .ok (.iload 4, 2) := dz_at dqX1_walkPast_p051 1 rfl
theorem dX1_walkPast_25 : decode cX1_walkPast 25 = .ok (.iaload, 1) := dz_at dqX1_walkPast_p051 2 rfl
theorem dX1_walkPast_26 : decode cX1_walkPast 26 = .ok (.iconst (-1), 1) := dz_at dqX1_walkPast_p051 3 rfl
theorem dX1_walkPast_27 : decode cX1_walkPast 27 = .ok (.if_icmp .eq 33, 3) := dz_at dqX1_walkPast_p051 4 rfl
theorem dX1_walkPast_30 : decode cX1_walkPast 30 = .ok (.aload_n 0, 1) := dz_at dqX1_walkPast_p051 5 rfl
theorem dX1_walkPast_31 : decode cX1_walkPast 31 = .ok (.aload_n 0, 1) := dz_at dqX1_walkPast_p051 6 rfl
theorem dX1_walkPast_32 : decode cX1_walkPast 32 = .ok (.getfield 15, 3) := dz_at dqX1_walkPast_p051 7 rfl
theorem dX1_walkPast_35 : decode cX1_walkPast 35 = .ok (.iload 4, 2) := dz_at dqX1_walkPast_p051 8 rfl
theorem dX1_walkPast_37 : decode cX1_walkPast 37 = .ok (.iaload, 1) := dz_at dqX1_walkPast_p051 9 rfl
theorem dX1_walkPast_38 : decode cX1_walkPast 38 = .ok (.invokevirtual 86, 3) := dz_at dqX1_walkPast_p051 10 rfl
theorem dX1_walkPast_41 : decode cX1_walkPast 41 = .ok (.istore 5, 2) := dz_at dqX1_walkPast_p051 11 rfl
theorem dX1_walkPast_43 : decode cX1_walkPast 43 = .ok (.aload_n 0, 1) := dz_at dqX1_walkPast_p051 12 rfl
theorem dX1_walkPast_44 : decode cX1_walkPast 44 = .ok (.getfield 15, 3) := dz_at dqX1_walkPast_p051 13 rfl
set_option maxRecDepth 20000 in
theorem dqX1_walkPast_p052 : dz_rn 47 (cX1_walkPast.data.toList.drop 47) [(1, 0), (0, 41), (0, 10), (1, 0), (0, 11), (0, 22), (0, 2), (1, 0), (0, 11), (0, 20), (5, 0), (4, 0), (0, 4), (3, 0)] = some [(47, .iload 4, 2), (49, .dup2, 1), (50, .iaload, 1), (51, .iload 5, 2), (53, .iadd, 1), (54, .iastore, 1), (55, .iload_n 2, 1), (56, .iload 5, 2), (58, .iadd, 1), (59, .istore_n 2, 1), (60, .iinc 4 1, 3), (63, .goto (-53), 3), (66, .aload_n 0, 1), (67, .getfield 33, 3)] := by decide +kernel
theorem dX1_walkPast_47 : decode cX1_walkPast 47 = .ok (.iload 4, 2) := dz_at dqX1_walkPast_p052 0 rfl
theorem dX1_walkPast_49 : decode cX1_walkPast 49 = .ok (.dup2, 1) := dz_at dqX1_walkPast_p052 1 rfl
theorem dX1_walkPast_50 : decode cX1_walkPast 50 = .ok (.iaload, 1) := dz_at dqX1_walkPast_p052 2 rfl
theorem dX1_walkPast_51 : decode cX1_walkPast 51 = .ok (.iload 5, 2) := dz_at dqX1_walkPast_p052 3 rfl
theorem dX1_walkPast_53 : decode cX1_walkPast 53 = .ok (.iadd, 1) := dz_at dqX1_walkPast_p052 4 rfl
theorem dX1_walkPast_54 : decode cX1_walkPast 54 = .ok (.iastore, 1) := dz_at dqX1_walkPast_p052 5 rfl
theorem dX1_walkPast_55 : decode cX1_walkPast 55 = .ok (.iload_n 2, 1) := dz_at dqX1_walkPast_p052 6 rfl
theorem dX1_walkPast_56 : decode cX1_walkPast 56 = .ok (.iload 5, 2) := dz_at dqX1_walkPast_p052 7 rfl
theorem dX1_walkPast_58 : decode cX1_walkPast 58 = .ok (.iadd, 1) := dz_at dqX1_walkPast_p052 8 rfl
theorem dX1_walkPast_59 : decode cX1_walkPast 59 = .ok (.istore_n 2, 1) := dz_at dqX1_walkPast_p052 9 rfl
theorem dX1_walkPast_60 : decode cX1_walkPast 60 = .ok (.iinc 4 1, 3) := dz_at dqX1_walkPast_p052 10 rfl
theorem dX1_walkPast_63 : decode cX1_walkPast 63 = .ok (.goto (-53), 3) := dz_at dqX1_walkPast_p052 11 rfl
theorem dX1_walkPast_66 : decode cX1_walkPast 66 = .ok (.aload_n 0, 1) := dz_at dqX1_walkPast_p052 12 rfl
theorem dX1_walkPast_67 : decode cX1_walkPast 67 = .ok (.getfield 33, 3) := dz_at dqX1_walkPast_p052 13 rfl
set_option maxRecDepth 20000 in
theorem dqX1_walkPast_p053 : dz_rn 70 (cX1_walkPast.data.toList.drop 70) [(0, 1), (0, 4), (3, 0), (0, 22), (0, 2), (0, 12)] = some [(70, .iload_n 1, 1), (71, .aload_n 0, 1), (72, .getfield 62, 3), (75, .iastore, 1), (76, .iload_n 2, 1), (77, .ireturn, 1)] := by decide +kernel
theorem dX1_walkPast_70 : decode cX1_walkPast 70 = .ok (.iload_n 1, 1) := dz_at dqX1_walkPast_p053 0 rfl
theorem dX1_walkPast_71 : decode cX1_walkPast 71 = .ok (.aload_n 0, 1) := dz_at dqX1_walkPast_p053 1 rfl
theorem dX1_walkPast_72 : decode cX1_walkPast 72 = .ok (.getfield 62, 3) := dz_at dqX1_walkPast_p053 2 rfl
theorem dX1_walkPast_75 : decode cX1_walkPast 75 = .ok (.iastore, 1) := dz_at dqX1_walkPast_p053 3 rfl
theorem dX1_walkPast_76 : decode cX1_walkPast 76 = .ok (.iload_n 2, 1) := dz_at dqX1_walkPast_p053 4 rfl
theorem dX1_walkPast_77 : decode cX1_walkPast 77 = .ok (.ireturn, 1) := dz_at dqX1_walkPast_p053 5 rfl
set_option maxRecDepth 20000 in
theorem dqX1_standingIn_p050 : dz_rn 0 (cX1_standingIn.data.toList.drop 0) [(0, 8), (0, 20), (0, 1), (2, 0), (0, 23), (0, 21), (0, 3), (1, 1), (1, 0), (0, 3), (2, 0), (0, 11), (4, 4), (0, 4)] = some [(0, .iconst 0, 1), (1, .istore_n 2, 1), (2, .iload_n 1, 1), (3, .bipush 6, 2), (5, .imul, 1), (6, .istore_n 3, 1), (7, .iload_n 3, 1), (8, .istore 4, 2), (10, .iload 4, 2), (12, .iload_n 3, 1), (13, .bipush 6, 2), (15, .iadd, 1), (16, .if_icmp .ge 23, 3), (19, .aload_n 0, 1)] := by decide +kernel
theorem dX1_standingIn_0 : decode cX1_standingIn 0 = .ok (.iconst 0, 1) := dz_at dqX1_standingIn_p050 0 rfl
theorem dX1_standingIn_1 : decode cX1_standingIn 1 = .ok (.istore_n 2, 1) := dz_at dqX1_standingIn_p050 1 rfl
theorem dX1_standingIn_2 : decode cX1_standingIn 2 = .ok (.iload_n 1, 1) := dz_at dqX1_standingIn_p050 2 rfl
theorem dX1_standingIn_3 : decode cX1_standingIn 3 = .ok (.bipush 6, 2) := dz_at dqX1_standingIn_p050 3 rfl
theorem dX1_standingIn_5 : decode cX1_standingIn 5 = .ok (.imul, 1) := dz_at dqX1_standingIn_p050 4 rfl
theorem dX1_standingIn_6 : decode cX1_standingIn 6 = .ok (.istore_n 3, 1) := dz_at dqX1_standingIn_p050 5 rfl
theorem dX1_standingIn_7 : decode cX1_standingIn 7 = .ok (.iload_n 3, 1) := dz_at dqX1_standingIn_p050 6 rfl
theorem dX1_standingIn_8 : decode cX1_standingIn 8 = .ok (.istore 4, 2) := dz_at dqX1_standingIn_p050 7 rfl
theorem dX1_standingIn_10 : decode cX1_standingIn 10 = .ok (.iload 4, 2) := dz_at dqX1_standingIn_p050 8 rfl
theorem dX1_standingIn_12 : decode cX1_standingIn 12 = .ok (.iload_n 3, 1) := dz_at dqX1_standingIn_p050 9 rfl
theorem dX1_standingIn_13 : decode cX1_standingIn 13 = .ok (.bipush 6, 2) := dz_at dqX1_standingIn_p050 10 rfl
theorem dX1_standingIn_15 : decode cX1_standingIn 15 = .ok (.iadd, 1) := dz_at dqX1_standingIn_p050 11 rfl
theorem dX1_standingIn_16 : decode cX1_standingIn 16 = .ok (.if_icmp .ge 23, 3) := dz_at dqX1_standingIn_p050 12 rfl
theorem dX1_standingIn_19 : decode cX1_standingIn 19 = .ok (.aload_n 0, 1) := dz_at dqX1_standingIn_p050 13 rfl
set_option maxRecDepth 20000 in
theorem dqX1_standingIn_p051 : dz_rn 20 (cX1_standingIn.data.toList.drop 20) [(3, 0), (1, 0), (0, 10), (0, 13), (4, 1), (5, 0), (5, 0), (4, 0), (0, 2), (0, 12)] = some [(20, .getfield 9, 3), (23, .iload 4, 2), (25, .iaload, 1), (26, .iconst (-1), 1), (27, .if_icmp .eq 6, 3), (30, .iinc 2 1, 3), (33, .iinc 4 1, 3), (36, .goto (-26), 3), (39, .iload_n 2, 1), (40, .ireturn, 1)] := by decide +kernel
theorem dX1_standingIn_20 : decode cX1_standingIn 20 = .ok (.getfield 9, 3) := dz_at dqX1_standingIn_p051 0 rfl
theorem dX1_standingIn_23 : decode cX1_standingIn 23 = .ok (.iload 4, 2) := dz_at dqX1_standingIn_p051 1 rfl
theorem dX1_standingIn_25 : decode cX1_standingIn 25 = .ok (.iaload, 1) := dz_at dqX1_standingIn_p051 2 rfl
theorem dX1_standingIn_26 : decode cX1_standingIn 26 = .ok (.iconst (-1), 1) := dz_at dqX1_standingIn_p051 3 rfl
theorem dX1_standingIn_27 : decode cX1_standingIn 27 = .ok (.if_icmp .eq 6, 3) := dz_at dqX1_standingIn_p051 4 rfl
theorem dX1_standingIn_30 : decode cX1_standingIn 30 = .ok (.iinc 2 1, 3) := dz_at dqX1_standingIn_p051 5 rfl
theorem dX1_standingIn_33 : decode cX1_standingIn 33 = .ok (.iinc 4 1, 3) := dz_at dqX1_standingIn_p051 6 rfl
theorem dX1_standingIn_36 : decode cX1_standingIn 36 = .ok (.goto (-26), 3) := dz_at dqX1_standingIn_p051 7 rfl
theorem dX1_standingIn_39 : decode cX1_standingIn 39 = .ok (.iload_n 2, 1) := dz_at dqX1_standingIn_p051 8 rfl
theorem dX1_standingIn_40 : decode cX1_standingIn 40 = .ok (.ireturn, 1) := dz_at dqX1_standingIn_p051 9 rfl
set_option maxRecDepth 20000 in
theorem ggX1_strengthAgainst_X1_crowds : GoodIn wsX1_strengthAgainst wsX1_crowds := goodIn_r _ [8, 9, 10, 11, 12, 7, 13, 14, 15, 16, 17, 18, 19, 20, 21, 22, 23, 24, 25, 26, 27, 28, 29, 30, 31, 32, 33, 34, 35, 36, 37, 38, 39, 40, 41, 42] rfl (by decide +kernel)
set_option maxRecDepth 20000 in
theorem gX1_strengthAgainst_X1_crowds : GoodIn wsX1_strengthAgainst (wsV RX1 79 RX1 yX1_crowds wsX1_crowds) := goodIn_app (goodIn_of _ (by decide +kernel)) ggX1_strengthAgainst_X1_crowds
set_option maxRecDepth 20000 in
theorem dqX1_strengthAgainst_p050 : dz_rn 0 (cX1_strengthAgainst.data.toList.drop 0) [(0, 4), (3, 0), (0, 1), (0, 10), (0, 13), (4, 2), (0, 8), (4, 0), (0, 4), (3, 0), (0, 1), (0, 10), (0, 20), (0, 1)] = some [(0, .aload_n 0, 1), (1, .getfield 18, 3), (4, .iload_n 1, 1), (5, .iaload, 1), (6, .iconst (-1), 1), (7, .if_icmp .ne 7, 3), (10, .iconst 0, 1), (11, .goto 9, 3), (14, .aload_n 0, 1), (15, .getfield 21, 3), (18, .iload_n 1, 1), (19, .iaload, 1), (20, .istore_n 2, 1), (21, .iload_n 1, 1)] := by decide +kernel
theorem dX1_strengthAgainst_0 : decode cX1_strengthAgainst 0 = .ok (.aload_n 0, 1) := dz_at dqX1_strengthAgainst_p050 0 rfl
theorem dX1_strengthAgainst_1 : decode cX1_strengthAgainst 1 = .ok (.getfield 18, 3) := dz_at dqX1_strengthAgainst_p050 1 rfl
theorem dX1_strengthAgainst_4 : decode cX1_strengthAgainst 4 = .ok (.iload_n 1, 1) := dz_at dqX1_strengthAgainst_p050 2 rfl
theorem dX1_strengthAgainst_5 : decode cX1_strengthAgainst 5 = .ok (.iaload, 1) := dz_at dqX1_strengthAgainst_p050 3 rfl
theorem dX1_strengthAgainst_6 : decode cX1_strengthAgainst 6 = .ok (.iconst (-1), 1) := dz_at dqX1_strengthAgainst_p050 4 rfl
theorem dX1_strengthAgainst_7 : decode cX1_strengthAgainst 7 = .ok (.if_icmp .ne 7, 3) := dz_at dqX1_strengthAgainst_p050 5 rfl
theorem dX1_strengthAgainst_10 : decode cX1_strengthAgainst 10 = .ok (.iconst 0, 1) := dz_at dqX1_strengthAgainst_p050 6 rfl
theorem dX1_strengthAgainst_11 : decode cX1_strengthAgainst 11 = .ok (.goto 9, 3) := dz_at dqX1_strengthAgainst_p050 7 rfl
theorem dX1_strengthAgainst_14 : decode cX1_strengthAgainst 14 = .ok (.aload_n 0, 1) := dz_at dqX1_strengthAgainst_p050 8 rfl
theorem dX1_strengthAgainst_15 : decode cX1_strengthAgainst 15 = .ok (.getfield 21, 3) := dz_at dqX1_strengthAgainst_p050 9 rfl
theorem dX1_strengthAgainst_18 : decode cX1_strengthAgainst 18 = .ok (.iload_n 1, 1) := dz_at dqX1_strengthAgainst_p050 10 rfl
theorem dX1_strengthAgainst_19 : decode cX1_strengthAgainst 19 = .ok (.iaload, 1) := dz_at dqX1_strengthAgainst_p050 11 rfl
theorem dX1_strengthAgainst_20 : decode cX1_strengthAgainst 20 = .ok (.istore_n 2, 1) := dz_at dqX1_strengthAgainst_p050 12 rfl
theorem dX1_strengthAgainst_21 : decode cX1_strengthAgainst 21 = .ok (.iload_n 1, 1) := dz_at dqX1_strengthAgainst_p050 13 rfl
set_option maxRecDepth 20000 in
theorem dqX1_strengthAgainst_p051 : dz_rn 22 (cX1_strengthAgainst.data.toList.drop 22) [(0, 1), (2, 0), (0, 30), (0, 26), (0, 21), (0, 3), (1, 1), (1, 0), (0, 3), (2, 0), (0, 11), (4, 4), (0, 4), (1, 0)] = some [(22, .iload_n 1, 1), (23, .bipush 6, 2), (25, .irem, 1), (26, .isub, 1), (27, .istore_n 3, 1), (28, .iload_n 3, 1), (29, .istore 4, 2), (31, .iload 4, 2), (33, .iload_n 3, 1), (34, .bipush 6, 2), (36, .iadd, 1), (37, .if_icmp .ge 29, 3), (40, .aload_n 0, 1), (41, .iload 4, 2)] := by decide +kernel
theorem dX1_strengthAgainst_22 : decode cX1_strengthAgainst 22 = .ok (.iload_n 1, 1) := dz_at dqX1_strengthAgainst_p051 0 rfl
theorem dX1_strengthAgainst_23 : decode cX1_strengthAgainst 23 = .ok (.bipush 6, 2) := dz_at dqX1_strengthAgainst_p051 1 rfl
theorem dX1_strengthAgainst_25 : decode cX1_strengthAgainst 25 = .ok (.irem, 1) := dz_at dqX1_strengthAgainst_p051 2 rfl
theorem dX1_strengthAgainst_26 : decode cX1_strengthAgainst 26 = .ok (.isub, 1) := dz_at dqX1_strengthAgainst_p051 3 rfl
theorem dX1_strengthAgainst_27 : decode cX1_strengthAgainst 27 = .ok (.istore_n 3, 1) := dz_at dqX1_strengthAgainst_p051 4 rfl
theorem dX1_strengthAgainst_28 : decode cX1_strengthAgainst 28 = .ok (.iload_n 3, 1) := dz_at dqX1_strengthAgainst_p051 5 rfl
theorem dX1_strengthAgainst_29 : decode cX1_strengthAgainst 29 = .ok (.istore 4, 2) := dz_at dqX1_strengthAgainst_p051 6 rfl
theorem dX1_strengthAgainst_31 : decode cX1_strengthAgainst 31 = .ok (.iload 4, 2) := dz_at dqX1_strengthAgainst_p051 7 rfl
theorem dX1_strengthAgainst_33 : decode cX1_strengthAgainst 33 = .ok (.iload_n 3, 1) := dz_at dqX1_strengthAgainst_p051 8 rfl
theorem dX1_strengthAgainst_34 : decode cX1_strengthAgainst 34 = .ok (.bipush 6, 2) := dz_at dqX1_strengthAgainst_p051 9 rfl
theorem dX1_strengthAgainst_36 : decode cX1_strengthAgainst 36 = .ok (.iadd, 1) := dz_at dqX1_strengthAgainst_p051 10 rfl
theorem dX1_strengthAgainst_37 : decode cX1_strengthAgainst 37 = .ok (.if_icmp .ge 29, 3) := dz_at dqX1_strengthAgainst_p051 11 rfl
theorem dX1_strengthAgainst_40 : decode cX1_strengthAgainst 40 = .ok (.aload_n 0, 1) := dz_at dqX1_strengthAgainst_p051 12 rfl
theorem dX1_strengthAgainst_41 : decode cX1_strengthAgainst 41 = .ok (.iload 4, 2) := dz_at dqX1_strengthAgainst_p051 13 rfl
set_option maxRecDepth 20000 in
theorem dqX1_strengthAgainst_p052 : dz_rn 43 (cX1_strengthAgainst.data.toList.drop 43) [(0, 1), (3, 1), (4, 7), (0, 2), (0, 4), (3, 0), (1, 0), (0, 10), (0, 11), (0, 20), (5, 0), (4, 0), (0, 2), (0, 12)] = some [(43, .iload_n 1, 1), (44, .invokevirtual 79, 3), (47, .ifCond .eq 13, 3), (50, .iload_n 2, 1), (51, .aload_n 0, 1), (52, .getfield 15, 3), (55, .iload 4, 2), (57, .iaload, 1), (58, .iadd, 1), (59, .istore_n 2, 1), (60, .iinc 4 1, 3), (63, .goto (-32), 3), (66, .iload_n 2, 1), (67, .ireturn, 1)] := by decide +kernel
theorem dX1_strengthAgainst_43 : decode cX1_strengthAgainst 43 = .ok (.iload_n 1, 1) := dz_at dqX1_strengthAgainst_p052 0 rfl
theorem dX1_strengthAgainst_44 : decode cX1_strengthAgainst 44 = .ok (.invokevirtual 79, 3) := dz_at dqX1_strengthAgainst_p052 1 rfl
theorem dX1_strengthAgainst_47 : decode cX1_strengthAgainst 47 = .ok (.ifCond .eq 13, 3) := dz_at dqX1_strengthAgainst_p052 2 rfl
theorem dX1_strengthAgainst_50 : decode cX1_strengthAgainst 50 = .ok (.iload_n 2, 1) := dz_at dqX1_strengthAgainst_p052 3 rfl
theorem dX1_strengthAgainst_51 : decode cX1_strengthAgainst 51 = .ok (.aload_n 0, 1) := dz_at dqX1_strengthAgainst_p052 4 rfl
theorem dX1_strengthAgainst_52 : decode cX1_strengthAgainst 52 = .ok (.getfield 15, 3) := dz_at dqX1_strengthAgainst_p052 5 rfl
theorem dX1_strengthAgainst_55 : decode cX1_strengthAgainst 55 = .ok (.iload 4, 2) := dz_at dqX1_strengthAgainst_p052 6 rfl
theorem dX1_strengthAgainst_57 : decode cX1_strengthAgainst 57 = .ok (.iaload, 1) := dz_at dqX1_strengthAgainst_p052 7 rfl
theorem dX1_strengthAgainst_58 : decode cX1_strengthAgainst 58 = .ok (.iadd, 1) := dz_at dqX1_strengthAgainst_p052 8 rfl
theorem dX1_strengthAgainst_59 : decode cX1_strengthAgainst 59 = .ok (.istore_n 2, 1) := dz_at dqX1_strengthAgainst_p052 9 rfl
theorem dX1_strengthAgainst_60 : decode cX1_strengthAgainst 60 = .ok (.iinc 4 1, 3) := dz_at dqX1_strengthAgainst_p052 10 rfl
theorem dX1_strengthAgainst_63 : decode cX1_strengthAgainst 63 = .ok (.goto (-32), 3) := dz_at dqX1_strengthAgainst_p052 11 rfl
theorem dX1_strengthAgainst_66 : decode cX1_strengthAgainst 66 = .ok (.iload_n 2, 1) := dz_at dqX1_strengthAgainst_p052 12 rfl
theorem dX1_strengthAgainst_67 : decode cX1_strengthAgainst 67 = .ok (.ireturn, 1) := dz_at dqX1_strengthAgainst_p052 13 rfl
set_option maxRecDepth 20000 in
theorem dqX1_nextOnTop_p050 : dz_rn 0 (cX1_nextOnTop.data.toList.drop 0) [(0, 1), (0, 1), (2, 0), (0, 30), (0, 26), (0, 21), (0, 1), (0, 2), (0, 11), (1, 1), (0, 8), (1, 1), (1, 0), (2, 0)] = some [(0, .iload_n 1, 1), (1, .iload_n 1, 1), (2, .bipush 6, 2), (4, .irem, 1), (5, .isub, 1), (6, .istore_n 3, 1), (7, .iload_n 1, 1), (8, .iload_n 2, 1), (9, .iadd, 1), (10, .istore 4, 2), (12, .iconst 0, 1), (13, .istore 5, 2), (15, .iload 5, 2), (17, .bipush 6, 2)] := by decide +kernel
theorem dX1_nextOnTop_0 : decode cX1_nextOnTop 0 = .ok (.iload_n 1, 1) := dz_at dqX1_nextOnTop_p050 0 rfl
theorem dX1_nextOnTop_1 : decode cX1_nextOnTop 1 = .ok (.iload_n 1, 1) := dz_at dqX1_nextOnTop_p050 1 rfl
theorem dX1_nextOnTop_2 : decode cX1_nextOnTop 2 = .ok (.bipush 6, 2) := dz_at dqX1_nextOnTop_p050 2 rfl
theorem dX1_nextOnTop_4 : decode cX1_nextOnTop 4 = .ok (.irem, 1) := dz_at dqX1_nextOnTop_p050 3 rfl
theorem dX1_nextOnTop_5 : decode cX1_nextOnTop 5 = .ok (.isub, 1) := dz_at dqX1_nextOnTop_p050 4 rfl
theorem dX1_nextOnTop_6 : decode cX1_nextOnTop 6 = .ok (.istore_n 3, 1) := dz_at dqX1_nextOnTop_p050 5 rfl
theorem dX1_nextOnTop_7 : decode cX1_nextOnTop 7 = .ok (.iload_n 1, 1) := dz_at dqX1_nextOnTop_p050 6 rfl
theorem dX1_nextOnTop_8 : decode cX1_nextOnTop 8 = .ok (.iload_n 2, 1) := dz_at dqX1_nextOnTop_p050 7 rfl
theorem dX1_nextOnTop_9 : decode cX1_nextOnTop 9 = .ok (.iadd, 1) := dz_at dqX1_nextOnTop_p050 8 rfl
theorem dX1_nextOnTop_10 : decode cX1_nextOnTop 10 = .ok (.istore 4, 2) := dz_at dqX1_nextOnTop_p050 9 rfl
theorem dX1_nextOnTop_12 : decode cX1_nextOnTop 12 = .ok (.iconst 0, 1) := dz_at dqX1_nextOnTop_p050 10 rfl
theorem dX1_nextOnTop_13 : decode cX1_nextOnTop 13 = .ok (.istore 5, 2) := dz_at dqX1_nextOnTop_p050 11 rfl
theorem dX1_nextOnTop_15 : decode cX1_nextOnTop 15 = .ok (.iload 5, 2) := dz_at dqX1_nextOnTop_p050 12 rfl
theorem dX1_nextOnTop_17 : decode cX1_nextOnTop 17 = .ok (.bipush 6, 2) := dz_at dqX1_nextOnTop_p050 13 rfl
set_option maxRecDepth 20000 in
theorem dqX1_nextOnTop_p051 : dz_rn 19 (cX1_nextOnTop.data.toList.drop 19) [(4, 4), (1, 0), (0, 3), (4, 3), (1, 0), (0, 3), (2, 0), (0, 11), (4, 3), (0, 13), (0, 12), (0, 4), (3, 0), (1, 0)] = some [(19, .if_icmp .ge 51, 3), (22, .iload 4, 2), (24, .iload_n 3, 1), (25, .if_icmp .lt 12, 3), (28, .iload 4, 2), (30, .iload_n 3, 1), (31, .bipush 6, 2), (33, .iadd, 1), (34, .if_icmp .lt 5, 3), (37, .iconst (-1), 1), (38, .ireturn, 1), (39, .aload_n 0, 1), (40, .getfield 9, 3), (43, .iload 4, 2)] := by decide +kernel
theorem dX1_nextOnTop_19 : decode cX1_nextOnTop 19 = .ok (.if_icmp .ge 51, 3) := dz_at dqX1_nextOnTop_p051 0 rfl
theorem dX1_nextOnTop_22 : decode cX1_nextOnTop 22 = .ok (.iload 4, 2) := dz_at dqX1_nextOnTop_p051 1 rfl
theorem dX1_nextOnTop_24 : decode cX1_nextOnTop 24 = .ok (.iload_n 3, 1) := dz_at dqX1_nextOnTop_p051 2 rfl
theorem dX1_nextOnTop_25 : decode cX1_nextOnTop 25 = .ok (.if_icmp .lt 12, 3) := dz_at dqX1_nextOnTop_p051 3 rfl
theorem dX1_nextOnTop_28 : decode cX1_nextOnTop 28 = .ok (.iload 4, 2) := dz_at dqX1_nextOnTop_p051 4 rfl
theorem dX1_nextOnTop_30 : decode cX1_nextOnTop 30 = .ok (.iload_n 3, 1) := dz_at dqX1_nextOnTop_p051 5 rfl
theorem dX1_nextOnTop_31 : decode cX1_nextOnTop 31 = .ok (.bipush 6, 2) := dz_at dqX1_nextOnTop_p051 6 rfl
theorem dX1_nextOnTop_33 : decode cX1_nextOnTop 33 = .ok (.iadd, 1) := dz_at dqX1_nextOnTop_p051 7 rfl
theorem dX1_nextOnTop_34 : decode cX1_nextOnTop 34 = .ok (.if_icmp .lt 5, 3) := dz_at dqX1_nextOnTop_p051 8 rfl
theorem dX1_nextOnTop_37 : decode cX1_nextOnTop 37 = .ok (.iconst (-1), 1) := dz_at dqX1_nextOnTop_p051 9 rfl
theorem dX1_nextOnTop_38 : decode cX1_nextOnTop 38 = .ok (.ireturn, 1) := dz_at dqX1_nextOnTop_p051 10 rfl
theorem dX1_nextOnTop_39 : decode cX1_nextOnTop 39 = .ok (.aload_n 0, 1) := dz_at dqX1_nextOnTop_p051 11 rfl
theorem dX1_nextOnTop_40 : decode cX1_nextOnTop 40 = .ok (.getfield 9, 3) := dz_at dqX1_nextOnTop_p051 12 rfl
theorem dX1_nextOnTop_43 : decode cX1_nextOnTop 43 = .ok (.iload 4, 2) := dz_at dqX1_nextOnTop_p051 13 rfl
set_option maxRecDepth 20000 in
theorem dqX1_nextOnTop_p052 : dz_rn 45 (cX1_nextOnTop.data.toList.drop 45) [(0, 10), (0, 13), (4, 1), (0, 4), (3, 0), (1, 0), (0, 10), (0, 12), (1, 0), (0, 2), (0, 11), (1, 1), (5, 0), (4, 0)] = some [(45, .iaload, 1), (46, .iconst (-1), 1), (47, .if_icmp .eq 11, 3), (50, .aload_n 0, 1), (51, .getfield 9, 3), (54, .iload 4, 2), (56, .iaload, 1), (57, .ireturn, 1), (58, .iload 4, 2), (60, .iload_n 2, 1), (61, .iadd, 1), (62, .istore 4, 2), (64, .iinc 5 1, 3), (67, .goto (-52), 3)] := by decide +kernel
theorem dX1_nextOnTop_45 : decode cX1_nextOnTop 45 = .ok (.iaload, 1) := dz_at dqX1_nextOnTop_p052 0 rfl
theorem dX1_nextOnTop_46 : decode cX1_nextOnTop 46 = .ok (.iconst (-1), 1) := dz_at dqX1_nextOnTop_p052 1 rfl
theorem dX1_nextOnTop_47 : decode cX1_nextOnTop 47 = .ok (.if_icmp .eq 11, 3) := dz_at dqX1_nextOnTop_p052 2 rfl
theorem dX1_nextOnTop_50 : decode cX1_nextOnTop 50 = .ok (.aload_n 0, 1) := dz_at dqX1_nextOnTop_p052 3 rfl
theorem dX1_nextOnTop_51 : decode cX1_nextOnTop 51 = .ok (.getfield 9, 3) := dz_at dqX1_nextOnTop_p052 4 rfl
theorem dX1_nextOnTop_54 : decode cX1_nextOnTop 54 = .ok (.iload 4, 2) := dz_at dqX1_nextOnTop_p052 5 rfl
theorem dX1_nextOnTop_56 : decode cX1_nextOnTop 56 = .ok (.iaload, 1) := dz_at dqX1_nextOnTop_p052 6 rfl
theorem dX1_nextOnTop_57 : decode cX1_nextOnTop 57 = .ok (.ireturn, 1) := dz_at dqX1_nextOnTop_p052 7 rfl
theorem dX1_nextOnTop_58 : decode cX1_nextOnTop 58 = .ok (.iload 4, 2) := dz_at dqX1_nextOnTop_p052 8 rfl
theorem dX1_nextOnTop_60 : decode cX1_nextOnTop 60 = .ok (.iload_n 2, 1) := dz_at dqX1_nextOnTop_p052 9 rfl
theorem dX1_nextOnTop_61 : decode cX1_nextOnTop 61 = .ok (.iadd, 1) := dz_at dqX1_nextOnTop_p052 10 rfl
theorem dX1_nextOnTop_62 : decode cX1_nextOnTop 62 = .ok (.istore 4, 2) := dz_at dqX1_nextOnTop_p052 11 rfl
theorem dX1_nextOnTop_64 : decode cX1_nextOnTop 64 = .ok (.iinc 5 1, 3) := dz_at dqX1_nextOnTop_p052 12 rfl
theorem dX1_nextOnTop_67 : decode cX1_nextOnTop 67 = .ok (.goto (-52), 3) := dz_at dqX1_nextOnTop_p052 13 rfl
set_option maxRecDepth 20000 in
theorem dqX1_nextOnTop_p053 : dz_rn 70 (cX1_nextOnTop.data.toList.drop 70) [(0, 13), (0, 12)] = some [(70, .iconst (-1), 1), (71, .ireturn, 1)] := by decide +kernel
theorem dX1_nextOnTop_70 : decode cX1_nextOnTop 70 = .ok (.iconst (-1), 1) := dz_at dqX1_nextOnTop_p053 0 rfl
theorem dX1_nextOnTop_71 : decode cX1_nextOnTop 71 = .ok (.ireturn, 1) := dz_at dqX1_nextOnTop_p053 1 rfl
set_option maxRecDepth 20000 in
theorem dqX1_allStrength_p050 : dz_rn 0 (cX1_allStrength.data.toList.drop 0) [(0, 8), (0, 19), (0, 8), (0, 20), (0, 2), (2, 0), (4, 4), (0, 4), (3, 0), (0, 2), (0, 10), (0, 13), (4, 1), (0, 1)] = some [(0, .iconst 0, 1), (1, .istore_n 1, 1), (2, .iconst 0, 1), (3, .istore_n 2, 1), (4, .iload_n 2, 1), (5, .bipush 48, 2), (7, .if_icmp .ge 28, 3), (10, .aload_n 0, 1), (11, .getfield 9, 3), (14, .iload_n 2, 1), (15, .iaload, 1), (16, .iconst (-1), 1), (17, .if_icmp .eq 12, 3), (20, .iload_n 1, 1)] := by decide +kernel
theorem dX1_allStrength_0 : decode cX1_allStrength 0 = .ok (.iconst 0, 1) := dz_at dqX1_allStrength_p050 0 rfl
theorem dX1_allStrength_1 : decode cX1_allStrength 1 = .ok (.istore_n 1, 1) := dz_at dqX1_allStrength_p050 1 rfl
theorem dX1_allStrength_2 : decode cX1_allStrength 2 = .ok (.iconst 0, 1) := dz_at dqX1_allStrength_p050 2 rfl
theorem dX1_allStrength_3 : decode cX1_allStrength 3 = .ok (.istore_n 2, 1) := dz_at dqX1_allStrength_p050 3 rfl
theorem dX1_allStrength_4 : decode cX1_allStrength 4 = .ok (.iload_n 2, 1) := dz_at dqX1_allStrength_p050 4 rfl
theorem dX1_allStrength_5 : decode cX1_allStrength 5 = .ok (.bipush 48, 2) := dz_at dqX1_allStrength_p050 5 rfl
theorem dX1_allStrength_7 : decode cX1_allStrength 7 = .ok (.if_icmp .ge 28, 3) := dz_at dqX1_allStrength_p050 6 rfl
theorem dX1_allStrength_10 : decode cX1_allStrength 10 = .ok (.aload_n 0, 1) := dz_at dqX1_allStrength_p050 7 rfl
theorem dX1_allStrength_11 : decode cX1_allStrength 11 = .ok (.getfield 9, 3) := dz_at dqX1_allStrength_p050 8 rfl
theorem dX1_allStrength_14 : decode cX1_allStrength 14 = .ok (.iload_n 2, 1) := dz_at dqX1_allStrength_p050 9 rfl
theorem dX1_allStrength_15 : decode cX1_allStrength 15 = .ok (.iaload, 1) := dz_at dqX1_allStrength_p050 10 rfl
theorem dX1_allStrength_16 : decode cX1_allStrength 16 = .ok (.iconst (-1), 1) := dz_at dqX1_allStrength_p050 11 rfl
theorem dX1_allStrength_17 : decode cX1_allStrength 17 = .ok (.if_icmp .eq 12, 3) := dz_at dqX1_allStrength_p050 12 rfl
theorem dX1_allStrength_20 : decode cX1_allStrength 20 = .ok (.iload_n 1, 1) := dz_at dqX1_allStrength_p050 13 rfl
set_option maxRecDepth 20000 in
theorem dqX1_allStrength_p051 : dz_rn 21 (cX1_allStrength.data.toList.drop 21) [(0, 4), (3, 0), (0, 2), (0, 10), (0, 11), (0, 19), (5, 0), (4, 0), (0, 1), (0, 12)] = some [(21, .aload_n 0, 1), (22, .getfield 15, 3), (25, .iload_n 2, 1), (26, .iaload, 1), (27, .iadd, 1), (28, .istore_n 1, 1), (29, .iinc 2 1, 3), (32, .goto (-28), 3), (35, .iload_n 1, 1), (36, .ireturn, 1)] := by decide +kernel
theorem dX1_allStrength_21 : decode cX1_allStrength 21 = .ok (.aload_n 0, 1) := dz_at dqX1_allStrength_p051 0 rfl
theorem dX1_allStrength_22 : decode cX1_allStrength 22 = .ok (.getfield 15, 3) := dz_at dqX1_allStrength_p051 1 rfl
theorem dX1_allStrength_25 : decode cX1_allStrength 25 = .ok (.iload_n 2, 1) := dz_at dqX1_allStrength_p051 2 rfl
theorem dX1_allStrength_26 : decode cX1_allStrength 26 = .ok (.iaload, 1) := dz_at dqX1_allStrength_p051 3 rfl
theorem dX1_allStrength_27 : decode cX1_allStrength 27 = .ok (.iadd, 1) := dz_at dqX1_allStrength_p051 4 rfl
theorem dX1_allStrength_28 : decode cX1_allStrength 28 = .ok (.istore_n 1, 1) := dz_at dqX1_allStrength_p051 5 rfl
theorem dX1_allStrength_29 : decode cX1_allStrength 29 = .ok (.iinc 2 1, 3) := dz_at dqX1_allStrength_p051 6 rfl
theorem dX1_allStrength_32 : decode cX1_allStrength 32 = .ok (.goto (-28), 3) := dz_at dqX1_allStrength_p051 7 rfl
theorem dX1_allStrength_35 : decode cX1_allStrength 35 = .ok (.iload_n 1, 1) := dz_at dqX1_allStrength_p051 8 rfl
theorem dX1_allStrength_36 : decode cX1_allStrength 36 = .ok (.ireturn, 1) := dz_at dqX1_allStrength_p051 9 rfl
set_option maxHeartbeats 4000000 in
set_option maxRecDepth 100000 in
theorem k_X1_gainOf (l : Launch) (dC : Nat → ClassId) (dI : Nat → Nat → Nat) (cI cZ cQ : ClassId) (a : Nat → Nat) (top : Nat → Int32) (str : Nat → Int32) (gho : Nat → Int32) (ghs : Nat → Int32) (pto : Nat → Int32) (cro : Nat → Int32) (pla : Nat → Int32) (wal : Nat → Int32) (fal : Nat → Int32) (tel : Int32) (gai : Int32) (day : Int32) (mar : Nat → Int32) (fr : Int32) (r_top : rg 48 (-1) (23) top) (r_str : rg 48 (0) (100) str) (r_gho : rg 48 (-1) (23) gho) (r_ghs : rg 48 (0) (100) ghs) (r_cro : rg 48 (0) (6) cro) (r_pla : rg 24 (-1) (47) pla) (r_fal : rg 11 (0) (30) fal) (r_gai : 0 ≤ gai.toInt ∧ gai.toInt ≤ 100) (r_day : 0 ≤ day.toInt ∧ day.toInt ≤ 400) (r_mar : rg 24 (0) (255) mar) (q0 : 0 ≤ fr.toInt) (q1 : fr.toInt ≤ 100) : KR l yX1_gainOf wsX1_gainOf { frames := 0, cells := 0, slots := 0, locals := 0 } (dC, dI) (TY cI cZ cQ) (wCor cI cZ cQ a top str gho ghs pto cro pla wal fal tel gai day mar) [.ref (a 4), .int fr] (fun r : Int32 => (0 ≤ r.toInt) ∧ (r.toInt ≤ 100 - fr.toInt) ∧ (r.toInt ≤ 100)) := by
  refine Met.ofW (cc := cX1_gainOf) (maxL := 2) (ret := (some .int)) (by decide) rfl ?_
  intro p e s m args below meth c s₁ B hml hv
  obtain ⟨rfl, hP, hK, hN⟩ := hv
  have hx := B.exec
  have hb := B.bytes
  have hr := B.returns
  have hts := atoms_spec (ws := wsX1_gainOf) B.pre
  have hown : s.vm.findClass RX1 = some m.cls := findClass_of_methodNamed B.named
  have hlocks := B.notSynchronized
  have lf43 := hts (.fieldLink RX1 43 "PalaceOfRooms$Corners" "gain" "I") (List.mem_cons_of_mem _ (List.mem_append_left _ (List.mem_of_getElem? (i := 0) rfl)))
  have inX1 : ∀ w ∈ wsX10, w ∈ wsX1_gainOf := fun w h => List.mem_cons_of_mem _ (List.mem_append_right _ h)
  have hl := lv_entry ([.ref (a 4), .int fr]) (n := 2) (Nat.le_of_ble_eq_true rfl)
  rw [lg_entry_eq]
  generalize (lg_sl ([.ref (a 4), .int fr]) ++ List.replicate (2 - (lg_sl ([.ref (a 4), .int fr])).length) Slot.unset).toArray = ls at hl ⊢
  have hl : lv_has ls 2 [(0, .ref (a 4)), (1, .int fr)] := hl
  refine lv_bipush (v := 100) hx hb dX1_gainOf_0 (by decide) ?_
  refine lv_iload_n hx hb dX1_gainOf_2 rfl (lv_at hl 1 rfl) ?_
  refine lv_isub hx hb dX1_gainOf_3 ?_
  have f1 : (100 - fr).toInt = (100) - (fr.toInt) := subC (show (100 : Int32).toInt = 100 from rfl) rfl (by omega) (by omega)
  refine lv_aload_n hx hb dX1_gainOf_4 rfl (lv_at hl 0 rfl) ?_
  refine va_get (D := (dC, dI)) (ci := 1) (v := .int gai) (C := RX1) (T := TX1) (N := 13) hx hb hts inX1 hown hK hP 0 rfl rfl 11 (by decide) lf43 (fun _ h9 => h9) rfl dX1_gainOf_5 ?_
  refine lv_imul hx hb dX1_gainOf_8 ?_
  obtain ⟨f2, f2_1, f2_2⟩ := mulB (a := (100 - fr)) (b := gai) (A := (100) - (fr.toInt)) (B := gai.toInt) (p := 100) (q := 100) f1 rfl (by omega) (by omega) (by omega) (by omega) (by decide)
  refine lv_bipush (v := 100) hx hb dX1_gainOf_9 (by decide) ?_
  refine lv_idiv hx hb dX1_gainOf_11 (by decide) ?_
  have f3 : (((100 - fr) * gai) / 100).toInt = (((100) - (fr.toInt)) * (gai.toInt)) / (100) := divC f2 (show (100 : Int32).toInt = 100 from rfl) (by omega) (by omega)
  exact W.iret (v := ((100 - fr) * gai) / 100) hx hb hr (fun t ht hW => ⟨((100 - fr) * gai) / 100, rfl, ⟨(show 0 ≤ (((100 - fr) * gai) / 100).toInt from by (try rw [show (((100 - fr) * gai) / 100).toInt = (((100) - (fr.toInt)) * (gai.toInt)) / (100) from f3]); omega), (show (((100 - fr) * gai) / 100).toInt ≤ 100 - fr.toInt from by (try rw [show (((100 - fr) * gai) / 100).toInt = (((100) - (fr.toInt)) * (gai.toInt)) / (100) from f3]); omega), (show (((100 - fr) * gai) / 100).toInt ≤ 100 from by (try rw [show (((100 - fr) * gai) / 100).toInt = (((100) - (fr.toInt)) * (gai.toInt)) / (100) from f3]); omega)⟩, ht⟩) (fun q h => by cases h) dX1_gainOf_12
