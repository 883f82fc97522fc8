section
set_option maxRecDepth 20000 in
theorem ggX9_init_X8_init : GoodIn wsX9_init wsX8_init := goodIn_r _ [45, 46, 2, 3, 36, 47, 48, 49, 50, 51, 125, 126] rfl (by decide +kernel)
set_option maxRecDepth 20000 in
theorem gX9_init_X8_init : GoodIn wsX9_init (wsX8_init) := ggX9_init_X8_init
set_option maxRecDepth 20000 in
theorem ggX9_init_X2_init : GoodIn wsX9_init wsX2_init := goodIn_r _ [53, 54, 2, 3, 36, 55, 138] rfl (by decide +kernel)
set_option maxRecDepth 20000 in
theorem gX9_init_X2_init_n18 : GoodIn wsX9_init (wsX2_init) := ggX9_init_X2_init
set_option maxRecDepth 20000 in
theorem ggX9_init_X1_init : GoodIn wsX9_init wsX1_init := goodIn_r _ [58, 59, 2, 3, 36, 60, 61, 62, 63, 64, 65, 66, 67, 68, 69, 70, 71, 72, 49, 50, 51, 139, 140, 141, 142, 143, 144, 145, 146, 147, 148, 149, 150, 151] rfl (by decide +kernel)
set_option maxRecDepth 20000 in
theorem gX9_init_X1_init : GoodIn wsX9_init (wsX1_init) := ggX9_init_X1_init
set_option maxRecDepth 20000 in
theorem ggX9_init_X7_init : GoodIn wsX9_init wsX7_init := goodIn_r _ [74, 75, 2, 3, 36, 76, 152, 153, 154, 155] rfl (by decide +kernel)
set_option maxRecDepth 20000 in
theorem gX9_init_X7_init_n34 : GoodIn wsX9_init (wsX7_init) := ggX9_init_X7_init
set_option maxRecDepth 20000 in
theorem ggX9_init_X3_init : GoodIn wsX9_init wsX3_init := goodIn_r _ [79, 80, 2, 3, 36, 81, 82, 83, 84, 85, 86, 87, 88, 156, 157, 158, 159, 160, 161, 162, 163, 164] rfl (by decide +kernel)
set_option maxRecDepth 20000 in
theorem gX9_init_X3_init : GoodIn wsX9_init (wsX3_init) := ggX9_init_X3_init
set_option maxRecDepth 20000 in
theorem ggX9_init_X6_init : GoodIn wsX9_init wsX6_init := goodIn_r _ [91, 92, 2, 3, 36, 93, 94, 95, 96, 97, 165, 166, 167, 168, 169] rfl (by decide +kernel)
set_option maxRecDepth 20000 in
theorem gX9_init_X6_init : GoodIn wsX9_init (wsX6_init) := ggX9_init_X6_init
set_option maxRecDepth 20000 in
theorem ggX9_init_X0_init : GoodIn wsX9_init wsX0_init := goodIn_r _ [100, 101, 2, 3, 36, 102, 103, 104, 105, 106, 170, 171, 172, 173, 174, 175] rfl (by decide +kernel)
set_option maxRecDepth 20000 in
theorem gX9_init_X0_init : GoodIn wsX9_init (wsX0_init) := ggX9_init_X0_init
set_option maxRecDepth 20000 in
theorem ggX9_init_X4_init : GoodIn wsX9_init wsX4_init := goodIn_r _ [108, 109, 2, 3, 36, 110, 176, 177] rfl (by decide +kernel)
set_option maxRecDepth 20000 in
theorem gX9_init_X4_init_n68 : GoodIn wsX9_init (wsX4_init) := ggX9_init_X4_init
set_option maxRecDepth 20000 in
theorem ggX9_init_X5_init : GoodIn wsX9_init wsX5_init := goodIn_r _ [113, 114, 2, 3, 36, 115, 116, 117, 118, 119, 40, 120, 121, 122, 123, 124, 49, 50, 51, 178, 179, 180, 181, 182] rfl (by decide +kernel)
set_option maxRecDepth 20000 in
theorem gX9_init_X5_init : GoodIn wsX9_init (wsX5_init) := ggX9_init_X5_init
set_option maxRecDepth 20000 in
theorem dqX9_init_p220 : dz_rn 0 (cX9_init.data.toList.drop 0) [(0, 4), (3, 5), (0, 4), (3, 6), (0, 28), (3, 5), (3, 3), (0, 4), (3, 6), (0, 28), (3, 5), (3, 3), (0, 4), (3, 6)] = some [(0, .aload_n 0, 1), (1, .invokespecial 3, 3), (4, .aload_n 0, 1), (5, .new 9, 3), (8, .dup, 1), (9, .invokespecial 11, 3), (12, .putfield 12, 3), (15, .aload_n 0, 1), (16, .new 16, 3), (19, .dup, 1), (20, .invokespecial 18, 3), (23, .putfield 19, 3), (26, .aload_n 0, 1), (27, .new 23, 3)] := by decide +kernel
theorem dX9_init_0 : decode cX9_init 0 = .ok (.aload_n 0, 1) := dz_at dqX9_init_p220 0 rfl
theorem dX9_init_1 : decode cX9_init 1 = .ok (.invokespecial 3, 3) := dz_at dqX9_init_p220 1 rfl
theorem dX9_init_4 : decode cX9_init 4 = .ok (.aload_n 0, 1) := dz_at dqX9_init_p220 2 rfl
theorem dX9_init_5 : decode cX9_init 5 = .ok (.new 9, 3) := dz_at dqX9_init_p220 3 rfl
theorem dX9_init_8 : decode cX9_init 8 = .ok (.dup, 1) := dz_at dqX9_init_p220 4 rfl
theorem dX9_init_9 : decode cX9_init 9 = .ok (.invokespecial 11, 3) := dz_at dqX9_init_p220 5 rfl
theorem dX9_init_12 : decode cX9_init 12 = .ok (.putfield 12, 3) := dz_at dqX9_init_p220 6 rfl
theorem dX9_init_15 : decode cX9_init 15 = .ok (.aload_n 0, 1) := dz_at dqX9_init_p220 7 rfl
theorem dX9_init_16 : decode cX9_init 16 = .ok (.new 16, 3) := dz_at dqX9_init_p220 8 rfl
theorem dX9_init_19 : decode cX9_init 19 = .ok (.dup, 1) := dz_at dqX9_init_p220 9 rfl
theorem dX9_init_20 : decode cX9_init 20 = .ok (.invokespecial 18, 3) := dz_at dqX9_init_p220 10 rfl
theorem dX9_init_23 : decode cX9_init 23 = .ok (.putfield 19, 3) := dz_at dqX9_init_p220 11 rfl
theorem dX9_init_26 : decode cX9_init 26 = .ok (.aload_n 0, 1) := dz_at dqX9_init_p220 12 rfl
theorem dX9_init_27 : decode cX9_init 27 = .ok (.new 23, 3) := dz_at dqX9_init_p220 13 rfl
set_option maxRecDepth 20000 in
theorem dqX9_init_p221 : dz_rn 30 (cX9_init.data.toList.drop 30) [(0, 28), (0, 4), (3, 0), (3, 5), (3, 3), (0, 4), (3, 6), (0, 28), (3, 5), (3, 3), (0, 4), (3, 6), (0, 28), (0, 4)] = some [(30, .dup, 1), (31, .aload_n 0, 1), (32, .getfield 19, 3), (35, .invokespecial 25, 3), (38, .putfield 28, 3), (41, .aload_n 0, 1), (42, .new 32, 3), (45, .dup, 1), (46, .invokespecial 34, 3), (49, .putfield 35, 3), (52, .aload_n 0, 1), (53, .new 39, 3), (56, .dup, 1), (57, .aload_n 0, 1)] := by decide +kernel
theorem dX9_init_30 : decode cX9_init 30 = .ok (.dup, 1) := dz_at dqX9_init_p221 0 rfl
theorem dX9_init_31 : decode cX9_init 31 = .ok (.aload_n 0, 1) := dz_at dqX9_init_p221 1 rfl
theorem dX9_init_32 : decode cX9_init 32 = .ok (.getfield 19, 3) := dz_at dqX9_init_p221 2 rfl
theorem dX9_init_35 : decode cX9_init 35 = .ok (.invokespecial 25, 3) := dz_at dqX9_init_p221 3 rfl
theorem dX9_init_38 : decode cX9_init 38 = .ok (.putfield 28, 3) := dz_at dqX9_init_p221 4 rfl
theorem dX9_init_41 : decode cX9_init 41 = .ok (.aload_n 0, 1) := dz_at dqX9_init_p221 5 rfl
theorem dX9_init_42 : decode cX9_init 42 = .ok (.new 32, 3) := dz_at dqX9_init_p221 6 rfl
theorem dX9_init_45 : decode cX9_init 45 = .ok (.dup, 1) := dz_at dqX9_init_p221 7 rfl
theorem dX9_init_46 : decode cX9_init 46 = .ok (.invokespecial 34, 3) := dz_at dqX9_init_p221 8 rfl
theorem dX9_init_49 : decode cX9_init 49 = .ok (.putfield 35, 3) := dz_at dqX9_init_p221 9 rfl
theorem dX9_init_52 : decode cX9_init 52 = .ok (.aload_n 0, 1) := dz_at dqX9_init_p221 10 rfl
theorem dX9_init_53 : decode cX9_init 53 = .ok (.new 39, 3) := dz_at dqX9_init_p221 11 rfl
theorem dX9_init_56 : decode cX9_init 56 = .ok (.dup, 1) := dz_at dqX9_init_p221 12 rfl
theorem dX9_init_57 : decode cX9_init 57 = .ok (.aload_n 0, 1) := dz_at dqX9_init_p221 13 rfl
set_option maxRecDepth 20000 in
theorem dqX9_init_p222 : dz_rn 58 (cX9_init.data.toList.drop 58) [(3, 0), (0, 4), (3, 0), (3, 5), (3, 3), (0, 4), (3, 6), (0, 28), (0, 4), (3, 0), (3, 5), (3, 3), (0, 4), (3, 6)] = some [(58, .getfield 28, 3), (61, .aload_n 0, 1), (62, .getfield 12, 3), (65, .invokespecial 41, 3), (68, .putfield 44, 3), (71, .aload_n 0, 1), (72, .new 48, 3), (75, .dup, 1), (76, .aload_n 0, 1), (77, .getfield 19, 3), (80, .invokespecial 50, 3), (83, .putfield 51, 3), (86, .aload_n 0, 1), (87, .new 55, 3)] := by decide +kernel
theorem dX9_init_58 : decode cX9_init 58 = .ok (.getfield 28, 3) := dz_at dqX9_init_p222 0 rfl
theorem dX9_init_61 : decode cX9_init 61 = .ok (.aload_n 0, 1) := dz_at dqX9_init_p222 1 rfl
theorem dX9_init_62 : decode cX9_init 62 = .ok (.getfield 12, 3) := dz_at dqX9_init_p222 2 rfl
theorem dX9_init_65 : decode cX9_init 65 = .ok (.invokespecial 41, 3) := dz_at dqX9_init_p222 3 rfl
theorem dX9_init_68 : decode cX9_init 68 = .ok (.putfield 44, 3) := dz_at dqX9_init_p222 4 rfl
theorem dX9_init_71 : decode cX9_init 71 = .ok (.aload_n 0, 1) := dz_at dqX9_init_p222 5 rfl
theorem dX9_init_72 : decode cX9_init 72 = .ok (.new 48, 3) := dz_at dqX9_init_p222 6 rfl
theorem dX9_init_75 : decode cX9_init 75 = .ok (.dup, 1) := dz_at dqX9_init_p222 7 rfl
theorem dX9_init_76 : decode cX9_init 76 = .ok (.aload_n 0, 1) := dz_at dqX9_init_p222 8 rfl
theorem dX9_init_77 : decode cX9_init 77 = .ok (.getfield 19, 3) := dz_at dqX9_init_p222 9 rfl
theorem dX9_init_80 : decode cX9_init 80 = .ok (.invokespecial 50, 3) := dz_at dqX9_init_p222 10 rfl
theorem dX9_init_83 : decode cX9_init 83 = .ok (.putfield 51, 3) := dz_at dqX9_init_p222 11 rfl
theorem dX9_init_86 : decode cX9_init 86 = .ok (.aload_n 0, 1) := dz_at dqX9_init_p222 12 rfl
theorem dX9_init_87 : decode cX9_init 87 = .ok (.new 55, 3) := dz_at dqX9_init_p222 13 rfl
set_option maxRecDepth 20000 in
theorem dqX9_init_p223 : dz_rn 90 (cX9_init.data.toList.drop 90) [(0, 28), (0, 4), (3, 0), (3, 5), (3, 3), (0, 4), (0, 16)] = some [(90, .dup, 1), (91, .aload_n 0, 1), (92, .getfield 19, 3), (95, .invokespecial 57, 3), (98, .putfield 58, 3), (101, .aload_n 0, 1), (102, .iconst 4, 1)] := by decide +kernel
theorem dX9_init_90 : decode cX9_init 90 = .ok (.dup, 1) := dz_at dqX9_init_p223 0 rfl
theorem dX9_init_91 : decode cX9_init 91 = .ok (.aload_n 0, 1) := dz_at dqX9_init_p223 1 rfl
theorem dX9_init_92 : decode cX9_init 92 = .ok (.getfield 19, 3) := dz_at dqX9_init_p223 2 rfl
theorem dX9_init_95 : decode cX9_init 95 = .ok (.invokespecial 57, 3) := dz_at dqX9_init_p223 3 rfl
theorem dX9_init_98 : decode cX9_init 98 = .ok (.putfield 58, 3) := dz_at dqX9_init_p223 4 rfl
theorem dX9_init_101 : decode cX9_init 101 = .ok (.aload_n 0, 1) := dz_at dqX9_init_p223 5 rfl
theorem dX9_init_102 : decode cX9_init 102 = .ok (.iconst 4, 1) := dz_at dqX9_init_p223 6 rfl
theorem dX9_init_103 : decode cX9_init 103 = .ok (.anewarray 62, 3) := by decide +kernel
set_option maxRecDepth 20000 in
theorem dqX9_init_p224 : dz_rn 106 (cX9_init.data.toList.drop 106) [(3, 3), (0, 8), (0, 19), (0, 1), (0, 16), (4, 4), (0, 4), (3, 0), (0, 1), (3, 6), (0, 28), (3, 5)] = some [(106, .putfield 64, 3), (109, .iconst 0, 1), (110, .istore_n 1, 1), (111, .iload_n 1, 1), (112, .iconst 4, 1), (113, .if_icmp .ge 22, 3), (116, .aload_n 0, 1), (117, .getfield 64, 3), (120, .iload_n 1, 1), (121, .new 62, 3), (124, .dup, 1), (125, .invokespecial 68, 3)] := by decide +kernel
theorem dX9_init_106 : decode cX9_init 106 = .ok (.putfield 64, 3) := dz_at dqX9_init_p224 0 rfl
theorem dX9_init_109 : decode cX9_init 109 = .ok (.iconst 0, 1) := dz_at dqX9_init_p224 1 rfl
theorem dX9_init_110 : decode cX9_init 110 = .ok (.istore_n 1, 1) := dz_at dqX9_init_p224 2 rfl
theorem dX9_init_111 : decode cX9_init 111 = .ok (.iload_n 1, 1) := dz_at dqX9_init_p224 3 rfl
theorem dX9_init_112 : decode cX9_init 112 = .ok (.iconst 4, 1) := dz_at dqX9_init_p224 4 rfl
theorem dX9_init_113 : decode cX9_init 113 = .ok (.if_icmp .ge 22, 3) := dz_at dqX9_init_p224 5 rfl
theorem dX9_init_116 : decode cX9_init 116 = .ok (.aload_n 0, 1) := dz_at dqX9_init_p224 6 rfl
theorem dX9_init_117 : decode cX9_init 117 = .ok (.getfield 64, 3) := dz_at dqX9_init_p224 7 rfl
theorem dX9_init_120 : decode cX9_init 120 = .ok (.iload_n 1, 1) := dz_at dqX9_init_p224 8 rfl
theorem dX9_init_121 : decode cX9_init 121 = .ok (.new 62, 3) := dz_at dqX9_init_p224 9 rfl
theorem dX9_init_124 : decode cX9_init 124 = .ok (.dup, 1) := dz_at dqX9_init_p224 10 rfl
theorem dX9_init_125 : decode cX9_init 125 = .ok (.invokespecial 68, 3) := dz_at dqX9_init_p224 11 rfl
theorem dX9_init_128 : decode cX9_init 128 = .ok (.aastore, 1) := by decide +kernel
set_option maxRecDepth 20000 in
theorem dqX9_init_p225 : dz_rn 129 (cX9_init.data.toList.drop 129) [(5, 0), (4, 0), (0, 4), (2, 0)] = some [(129, .iinc 1 1, 3), (132, .goto (-21), 3), (135, .aload_n 0, 1), (136, .bipush 8, 2)] := by decide +kernel
theorem dX9_init_129 : decode cX9_init 129 = .ok (.iinc 1 1, 3) := dz_at dqX9_init_p225 0 rfl
theorem dX9_init_132 : decode cX9_init 132 = .ok (.goto (-21), 3) := dz_at dqX9_init_p225 1 rfl
theorem dX9_init_135 : decode cX9_init 135 = .ok (.aload_n 0, 1) := dz_at dqX9_init_p225 2 rfl
theorem dX9_init_136 : decode cX9_init 136 = .ok (.bipush 8, 2) := dz_at dqX9_init_p225 3 rfl
theorem dX9_init_138 : decode cX9_init 138 = .ok (.newarray .int, 2) := by decide +kernel
set_option maxRecDepth 20000 in
theorem dqX9_init_p226 : dz_rn 140 (cX9_init.data.toList.drop 140) [(3, 3), (0, 4), (3, 6), (0, 28), (3, 5), (3, 3), (0, 4), (3, 6), (0, 28), (3, 5), (3, 3), (0, 25)] = some [(140, .putfield 69, 3), (143, .aload_n 0, 1), (144, .new 73, 3), (147, .dup, 1), (148, .invokespecial 75, 3), (151, .putfield 76, 3), (154, .aload_n 0, 1), (155, .new 73, 3), (158, .dup, 1), (159, .invokespecial 75, 3), (162, .putfield 80, 3), (165, .return_, 1)] := by decide +kernel
theorem dX9_init_140 : decode cX9_init 140 = .ok (.putfield 69, 3) := dz_at dqX9_init_p226 0 rfl
theorem dX9_init_143 : decode cX9_init 143 = .ok (.aload_n 0, 1) := dz_at dqX9_init_p226 1 rfl
theorem dX9_init_144 : decode cX9_init 144 = .ok (.new 73, 3) := dz_at dqX9_init_p226 2 rfl
theorem dX9_init_147 : decode cX9_init 147 = .ok (.dup, 1) := dz_at dqX9_init_p226 3 rfl
theorem dX9_init_148 : decode cX9_init 148 = .ok (.invokespecial 75, 3) := dz_at dqX9_init_p226 4 rfl
theorem dX9_init_151 : decode cX9_init 151 = .ok (.putfield 76, 3) := dz_at dqX9_init_p226 5 rfl
theorem dX9_init_154 : decode cX9_init 154 = .ok (.aload_n 0, 1) := dz_at dqX9_init_p226 6 rfl
theorem dX9_init_155 : decode cX9_init 155 = .ok (.new 73, 3) := dz_at dqX9_init_p226 7 rfl
theorem dX9_init_158 : decode cX9_init 158 = .ok (.dup, 1) := dz_at dqX9_init_p226 8 rfl
theorem dX9_init_159 : decode cX9_init 159 = .ok (.invokespecial 75, 3) := dz_at dqX9_init_p226 9 rfl
theorem dX9_init_162 : decode cX9_init 162 = .ok (.putfield 80, 3) := dz_at dqX9_init_p226 10 rfl
theorem dX9_init_165 : decode cX9_init 165 = .ok (.return_, 1) := dz_at dqX9_init_p226 11 rfl
set_option maxRecDepth 20000 in
theorem ggX9_door_X9_isRoom : GoodIn wsX9_door wsX9_isRoom := goodIn_r _ [5, 6, 7, 4, 8] rfl (by decide +kernel)
set_option maxRecDepth 20000 in
theorem gX9_door_X9_isRoom : GoodIn wsX9_door (va_wsS RX9 83 yX9_isRoom wsX9_isRoom) := goodIn_app (goodIn_of _ (by decide +kernel)) ggX9_door_X9_isRoom
set_option maxRecDepth 20000 in
theorem ggX9_door_X8_joined : GoodIn wsX9_door wsX8_joined := goodIn_r _ [13, 14, 15, 16, 12, 17, 18, 39, 40] rfl (by decide +kernel)
set_option maxRecDepth 20000 in
theorem gX9_door_X8_joined : GoodIn wsX9_door (wsV RX9 87 RX8 yX8_joined wsX8_joined) := goodIn_app (goodIn_of _ (by decide +kernel)) ggX9_door_X8_joined
set_option maxRecDepth 20000 in
theorem ggX9_door_X8_join : GoodIn wsX9_door wsX8_join := goodIn_r _ [22, 23, 14, 15, 16, 12, 17, 18, 24, 25, 26, 27, 39, 40] rfl (by decide +kernel)
set_option maxRecDepth 20000 in
theorem gX9_door_X8_join : GoodIn wsX9_door (wsV RX9 95 RX8 yX8_join wsX8_join) := goodIn_app (goodIn_of _ (by decide +kernel)) ggX9_door_X8_join
set_option maxRecDepth 20000 in
theorem dqX9_door_p220 : dz_rn 0 (cX9_door.data.toList.drop 0) [(0, 1), (3, 2), (4, 7), (0, 2), (3, 2), (4, 7), (0, 1), (0, 2), (4, 2), (2, 0), (0, 12), (0, 4), (3, 0), (0, 1)] = some [(0, .iload_n 1, 1), (1, .invokestatic 83, 3), (4, .ifCond .eq 15, 3), (7, .iload_n 2, 1), (8, .invokestatic 83, 3), (11, .ifCond .eq 8, 3), (14, .iload_n 1, 1), (15, .iload_n 2, 1), (16, .if_icmp .ne 6, 3), (19, .bipush (-2), 2), (21, .ireturn, 1), (22, .aload_n 0, 1), (23, .getfield 12, 3), (26, .iload_n 1, 1)] := by decide +kernel
theorem dX9_door_0 : decode cX9_door 0 = .ok (.iload_n 1, 1) := dz_at dqX9_door_p220 0 rfl
theorem dX9_door_1 : decode cX9_door 1 = .ok (.invokestatic 83, 3) := dz_at dqX9_door_p220 1 rfl
theorem dX9_door_4 : decode cX9_door 4 = .ok (.ifCond .eq 15, 3) := dz_at dqX9_door_p220 2 rfl
theorem dX9_door_7 : decode cX9_door 7 = .ok (.iload_n 2, 1) := dz_at dqX9_door_p220 3 rfl
theorem dX9_door_8 : decode cX9_door 8 = .ok (.invokestatic 83, 3) := dz_at dqX9_door_p220 4 rfl
theorem dX9_door_11 : decode cX9_door 11 = .ok (.ifCond .eq 8, 3) := dz_at dqX9_door_p220 5 rfl
theorem dX9_door_14 : decode cX9_door 14 = .ok (.iload_n 1, 1) := dz_at dqX9_door_p220 6 rfl
theorem dX9_door_15 : decode cX9_door 15 = .ok (.iload_n 2, 1) := dz_at dqX9_door_p220 7 rfl
theorem dX9_door_16 : decode cX9_door 16 = .ok (.if_icmp .ne 6, 3) := dz_at dqX9_door_p220 8 rfl
theorem dX9_door_19 : decode cX9_door 19 = .ok (.bipush (-2), 2) := dz_at dqX9_door_p220 9 rfl
theorem dX9_door_21 : decode cX9_door 21 = .ok (.ireturn, 1) := dz_at dqX9_door_p220 10 rfl
theorem dX9_door_22 : decode cX9_door 22 = .ok (.aload_n 0, 1) := dz_at dqX9_door_p220 11 rfl
theorem dX9_door_23 : decode cX9_door 23 = .ok (.getfield 12, 3) := dz_at dqX9_door_p220 12 rfl
theorem dX9_door_26 : decode cX9_door 26 = .ok (.iload_n 1, 1) := dz_at dqX9_door_p220 13 rfl
set_option maxRecDepth 20000 in
theorem dqX9_door_p221 : dz_rn 27 (cX9_door.data.toList.drop 27) [(0, 2), (3, 1), (4, 7), (2, 0), (0, 12), (0, 4), (3, 0), (3, 0), (2, 0), (4, 3), (2, 0), (0, 12), (0, 4), (3, 0)] = some [(27, .iload_n 2, 1), (28, .invokevirtual 87, 3), (31, .ifCond .eq 6, 3), (34, .bipush (-4), 2), (36, .ireturn, 1), (37, .aload_n 0, 1), (38, .getfield 12, 3), (41, .getfield 91, 3), (44, .bipush 14, 2), (46, .if_icmp .lt 6, 3), (49, .bipush (-5), 2), (51, .ireturn, 1), (52, .aload_n 0, 1), (53, .getfield 12, 3)] := by decide +kernel
theorem dX9_door_27 : decode cX9_door 27 = .ok (.iload_n 2, 1) := dz_at dqX9_door_p221 0 rfl
theorem dX9_door_28 : decode cX9_door 28 = .ok (.invokevirtual 87, 3) := dz_at dqX9_door_p221 1 rfl
theorem dX9_door_31 : decode cX9_door 31 = .ok (.ifCond .eq 6, 3) := dz_at dqX9_door_p221 2 rfl
theorem dX9_door_34 : decode cX9_door 34 = .ok (.bipush (-4), 2) := dz_at dqX9_door_p221 3 rfl
theorem dX9_door_36 : decode cX9_door 36 = .ok (.ireturn, 1) := dz_at dqX9_door_p221 4 rfl
theorem dX9_door_37 : decode cX9_door 37 = .ok (.aload_n 0, 1) := dz_at dqX9_door_p221 5 rfl
theorem dX9_door_38 : decode cX9_door 38 = .ok (.getfield 12, 3) := dz_at dqX9_door_p221 6 rfl
theorem dX9_door_41 : decode cX9_door 41 = .ok (.getfield 91, 3) := dz_at dqX9_door_p221 7 rfl
theorem dX9_door_44 : decode cX9_door 44 = .ok (.bipush 14, 2) := dz_at dqX9_door_p221 8 rfl
theorem dX9_door_46 : decode cX9_door 46 = .ok (.if_icmp .lt 6, 3) := dz_at dqX9_door_p221 9 rfl
theorem dX9_door_49 : decode cX9_door 49 = .ok (.bipush (-5), 2) := dz_at dqX9_door_p221 10 rfl
theorem dX9_door_51 : decode cX9_door 51 = .ok (.ireturn, 1) := dz_at dqX9_door_p221 11 rfl
theorem dX9_door_52 : decode cX9_door 52 = .ok (.aload_n 0, 1) := dz_at dqX9_door_p221 12 rfl
theorem dX9_door_53 : decode cX9_door 53 = .ok (.getfield 12, 3) := dz_at dqX9_door_p221 13 rfl
set_option maxRecDepth 20000 in
theorem dqX9_door_p222 : dz_rn 56 (cX9_door.data.toList.drop 56) [(0, 1), (0, 2), (3, 1), (0, 4), (3, 0), (3, 0), (0, 12)] = some [(56, .iload_n 1, 1), (57, .iload_n 2, 1), (58, .invokevirtual 95, 3), (61, .aload_n 0, 1), (62, .getfield 12, 3), (65, .getfield 91, 3), (68, .ireturn, 1)] := by decide +kernel
theorem dX9_door_56 : decode cX9_door 56 = .ok (.iload_n 1, 1) := dz_at dqX9_door_p222 0 rfl
theorem dX9_door_57 : decode cX9_door 57 = .ok (.iload_n 2, 1) := dz_at dqX9_door_p222 1 rfl
theorem dX9_door_58 : decode cX9_door 58 = .ok (.invokevirtual 95, 3) := dz_at dqX9_door_p222 2 rfl
theorem dX9_door_61 : decode cX9_door 61 = .ok (.aload_n 0, 1) := dz_at dqX9_door_p222 3 rfl
theorem dX9_door_62 : decode cX9_door 62 = .ok (.getfield 12, 3) := dz_at dqX9_door_p222 4 rfl
theorem dX9_door_65 : decode cX9_door 65 = .ok (.getfield 91, 3) := dz_at dqX9_door_p222 5 rfl
theorem dX9_door_68 : decode cX9_door 68 = .ok (.ireturn, 1) := dz_at dqX9_door_p222 6 rfl
set_option maxRecDepth 20000 in
theorem ggX9_away_X9_isRoom : GoodIn wsX9_away wsX9_isRoom := goodIn_r _ [5, 6, 7, 4, 8] rfl (by decide +kernel)
set_option maxRecDepth 20000 in
theorem gX9_away_X9_isRoom : GoodIn wsX9_away (va_wsS RX9 83 yX9_isRoom wsX9_isRoom) := goodIn_app (goodIn_of _ (by decide +kernel)) ggX9_away_X9_isRoom
set_option maxRecDepth 20000 in
theorem ggX9_away_X8_between : GoodIn wsX9_away wsX8_between := goodIn_r _ [13, 14, 26, 27] rfl (by decide +kernel)
set_option maxRecDepth 20000 in
theorem gX9_away_X8_between : GoodIn wsX9_away (wsV RX9 99 RX8 yX8_between wsX8_between) := goodIn_app (goodIn_of _ (by decide +kernel)) ggX9_away_X8_between
set_option maxRecDepth 20000 in
theorem dqX9_away_p220 : dz_rn 0 (cX9_away.data.toList.drop 0) [(0, 1), (3, 2), (4, 7), (0, 2), (3, 2), (4, 8), (2, 0), (0, 12), (0, 4), (3, 0), (0, 1), (0, 2), (3, 1), (0, 12)] = some [(0, .iload_n 1, 1), (1, .invokestatic 83, 3), (4, .ifCond .eq 10, 3), (7, .iload_n 2, 1), (8, .invokestatic 83, 3), (11, .ifCond .ne 6, 3), (14, .bipush (-2), 2), (16, .ireturn, 1), (17, .aload_n 0, 1), (18, .getfield 12, 3), (21, .iload_n 1, 1), (22, .iload_n 2, 1), (23, .invokevirtual 99, 3), (26, .ireturn, 1)] := by decide +kernel
theorem dX9_away_0 : decode cX9_away 0 = .ok (.iload_n 1, 1) := dz_at dqX9_away_p220 0 rfl
theorem dX9_away_1 : decode cX9_away 1 = .ok (.invokestatic 83, 3) := dz_at dqX9_away_p220 1 rfl
theorem dX9_away_4 : decode cX9_away 4 = .ok (.ifCond .eq 10, 3) := dz_at dqX9_away_p220 2 rfl
theorem dX9_away_7 : decode cX9_away 7 = .ok (.iload_n 2, 1) := dz_at dqX9_away_p220 3 rfl
theorem dX9_away_8 : decode cX9_away 8 = .ok (.invokestatic 83, 3) := dz_at dqX9_away_p220 4 rfl
theorem dX9_away_11 : decode cX9_away 11 = .ok (.ifCond .ne 6, 3) := dz_at dqX9_away_p220 5 rfl
theorem dX9_away_14 : decode cX9_away 14 = .ok (.bipush (-2), 2) := dz_at dqX9_away_p220 6 rfl
theorem dX9_away_16 : decode cX9_away 16 = .ok (.ireturn, 1) := dz_at dqX9_away_p220 7 rfl
theorem dX9_away_17 : decode cX9_away 17 = .ok (.aload_n 0, 1) := dz_at dqX9_away_p220 8 rfl
theorem dX9_away_18 : decode cX9_away 18 = .ok (.getfield 12, 3) := dz_at dqX9_away_p220 9 rfl
theorem dX9_away_21 : decode cX9_away 21 = .ok (.iload_n 1, 1) := dz_at dqX9_away_p220 10 rfl
theorem dX9_away_22 : decode cX9_away 22 = .ok (.iload_n 2, 1) := dz_at dqX9_away_p220 11 rfl
theorem dX9_away_23 : decode cX9_away 23 = .ok (.invokevirtual 99, 3) := dz_at dqX9_away_p220 12 rfl
theorem dX9_away_26 : decode cX9_away 26 = .ok (.ireturn, 1) := dz_at dqX9_away_p220 13 rfl
set_option maxRecDepth 20000 in
theorem ggX9_marks_X9_isThing : GoodIn wsX9_marks wsX9_isThing := goodIn_r _ [5, 6, 7, 4, 8] rfl (by decide +kernel)
set_option maxRecDepth 20000 in
theorem gX9_marks_X9_isThing : GoodIn wsX9_marks (va_wsS RX9 103 yX9_isThing wsX9_isThing) := goodIn_app (goodIn_of _ (by decide +kernel)) ggX9_marks_X9_isThing
set_option maxRecDepth 20000 in
theorem ggX9_marks_X9_within : GoodIn wsX9_marks wsX9_within := goodIn_r _ [8] rfl (by decide +kernel)
set_option maxRecDepth 20000 in
theorem gX9_marks_X9_within : GoodIn wsX9_marks (va_wsS RX9 106 yX9_within wsX9_within) := goodIn_app (goodIn_of _ (by decide +kernel)) ggX9_marks_X9_within
set_option maxRecDepth 20000 in
theorem dqX9_marks_p220 : dz_rn 0 (cX9_marks.data.toList.drop 0) [(0, 1), (3, 2), (4, 8), (2, 0), (0, 12), (0, 2), (0, 8), (4, 13), (3, 2), (4, 8), (2, 0), (0, 12), (0, 4), (3, 0)] = some [(0, .iload_n 1, 1), (1, .invokestatic 103, 3), (4, .ifCond .ne 6, 3), (7, .bipush (-2), 2), (9, .ireturn, 1), (10, .iload_n 2, 1), (11, .iconst 0, 1), (12, .sipush 255, 3), (15, .invokestatic 106, 3), (18, .ifCond .ne 6, 3), (21, .bipush (-3), 2), (23, .ireturn, 1), (24, .aload_n 0, 1), (25, .getfield 19, 3)] := by decide +kernel
theorem dX9_marks_0 : decode cX9_marks 0 = .ok (.iload_n 1, 1) := dz_at dqX9_marks_p220 0 rfl
theorem dX9_marks_1 : decode cX9_marks 1 = .ok (.invokestatic 103, 3) := dz_at dqX9_marks_p220 1 rfl
theorem dX9_marks_4 : decode cX9_marks 4 = .ok (.ifCond .ne 6, 3) := dz_at dqX9_marks_p220 2 rfl
theorem dX9_marks_7 : decode cX9_marks 7 = .ok (.bipush (-2), 2) := dz_at dqX9_marks_p220 3 rfl
theorem dX9_marks_9 : decode cX9_marks 9 = .ok (.ireturn, 1) := dz_at dqX9_marks_p220 4 rfl
theorem dX9_marks_10 : decode cX9_marks 10 = .ok (.iload_n 2, 1) := dz_at dqX9_marks_p220 5 rfl
theorem dX9_marks_11 : decode cX9_marks 11 = .ok (.iconst 0, 1) := dz_at dqX9_marks_p220 6 rfl
theorem dX9_marks_12 : decode cX9_marks 12 = .ok (.sipush 255, 3) := dz_at dqX9_marks_p220 7 rfl
theorem dX9_marks_15 : decode cX9_marks 15 = .ok (.invokestatic 106, 3) := dz_at dqX9_marks_p220 8 rfl
theorem dX9_marks_18 : decode cX9_marks 18 = .ok (.ifCond .ne 6, 3) := dz_at dqX9_marks_p220 9 rfl
theorem dX9_marks_21 : decode cX9_marks 21 = .ok (.bipush (-3), 2) := dz_at dqX9_marks_p220 10 rfl
theorem dX9_marks_23 : decode cX9_marks 23 = .ok (.ireturn, 1) := dz_at dqX9_marks_p220 11 rfl
theorem dX9_marks_24 : decode cX9_marks 24 = .ok (.aload_n 0, 1) := dz_at dqX9_marks_p220 12 rfl
theorem dX9_marks_25 : decode cX9_marks 25 = .ok (.getfield 19, 3) := dz_at dqX9_marks_p220 13 rfl
set_option maxRecDepth 20000 in
theorem dqX9_marks_p221 : dz_rn 28 (cX9_marks.data.toList.drop 28) [(3, 0), (0, 1), (0, 10), (0, 21), (0, 4), (3, 0), (3, 0), (0, 1), (0, 2), (0, 22), (0, 3), (0, 12)] = some [(28, .getfield 110, 3), (31, .iload_n 1, 1), (32, .iaload, 1), (33, .istore_n 3, 1), (34, .aload_n 0, 1), (35, .getfield 19, 3), (38, .getfield 110, 3), (41, .iload_n 1, 1), (42, .iload_n 2, 1), (43, .iastore, 1), (44, .iload_n 3, 1), (45, .ireturn, 1)] := by decide +kernel
theorem dX9_marks_28 : decode cX9_marks 28 = .ok (.getfield 110, 3) := dz_at dqX9_marks_p221 0 rfl
theorem dX9_marks_31 : decode cX9_marks 31 = .ok (.iload_n 1, 1) := dz_at dqX9_marks_p221 1 rfl
theorem dX9_marks_32 : decode cX9_marks 32 = .ok (.iaload, 1) := dz_at dqX9_marks_p221 2 rfl
theorem dX9_marks_33 : decode cX9_marks 33 = .ok (.istore_n 3, 1) := dz_at dqX9_marks_p221 3 rfl
theorem dX9_marks_34 : decode cX9_marks 34 = .ok (.aload_n 0, 1) := dz_at dqX9_marks_p221 4 rfl
theorem dX9_marks_35 : decode cX9_marks 35 = .ok (.getfield 19, 3) := dz_at dqX9_marks_p221 5 rfl
theorem dX9_marks_38 : decode cX9_marks 38 = .ok (.getfield 110, 3) := dz_at dqX9_marks_p221 6 rfl
theorem dX9_marks_41 : decode cX9_marks 41 = .ok (.iload_n 1, 1) := dz_at dqX9_marks_p221 7 rfl
theorem dX9_marks_42 : decode cX9_marks 42 = .ok (.iload_n 2, 1) := dz_at dqX9_marks_p221 8 rfl
theorem dX9_marks_43 : decode cX9_marks 43 = .ok (.iastore, 1) := dz_at dqX9_marks_p221 9 rfl
theorem dX9_marks_44 : decode cX9_marks 44 = .ok (.iload_n 3, 1) := dz_at dqX9_marks_p221 10 rfl
theorem dX9_marks_45 : decode cX9_marks 45 = .ok (.ireturn, 1) := dz_at dqX9_marks_p221 11 rfl
set_option maxRecDepth 20000 in
theorem ggX9_like_X9_isThing : GoodIn wsX9_like wsX9_isThing := goodIn_r _ [5, 6, 7, 4, 8] rfl (by decide +kernel)
set_option maxRecDepth 20000 in
theorem gX9_like_X9_isThing : GoodIn wsX9_like (va_wsS RX9 103 yX9_isThing wsX9_isThing) := goodIn_app (goodIn_of _ (by decide +kernel)) ggX9_like_X9_isThing
set_option maxRecDepth 20000 in
theorem ggX9_like_X2_shared : GoodIn wsX9_like wsX2_shared := goodIn_r _ [13, 14, 15, 16, 17, 18, 19, 20, 21, 33] rfl (by decide +kernel)
set_option maxRecDepth 20000 in
theorem gX9_like_X2_shared : GoodIn wsX9_like (wsV RX9 113 RX2 yX2_shared wsX2_shared) := goodIn_app (goodIn_of _ (by decide +kernel)) ggX9_like_X2_shared
set_option maxRecDepth 20000 in
theorem dqX9_like_p220 : dz_rn 0 (cX9_like.data.toList.drop 0) [(0, 1), (3, 2), (4, 7), (0, 2), (3, 2), (4, 8), (2, 0), (0, 12), (0, 4), (3, 0), (0, 1), (0, 2), (3, 1), (0, 12)] = some [(0, .iload_n 1, 1), (1, .invokestatic 103, 3), (4, .ifCond .eq 10, 3), (7, .iload_n 2, 1), (8, .invokestatic 103, 3), (11, .ifCond .ne 6, 3), (14, .bipush (-2), 2), (16, .ireturn, 1), (17, .aload_n 0, 1), (18, .getfield 19, 3), (21, .iload_n 1, 1), (22, .iload_n 2, 1), (23, .invokevirtual 113, 3), (26, .ireturn, 1)] := by decide +kernel
theorem dX9_like_0 : decode cX9_like 0 = .ok (.iload_n 1, 1) := dz_at dqX9_like_p220 0 rfl
theorem dX9_like_1 : decode cX9_like 1 = .ok (.invokestatic 103, 3) := dz_at dqX9_like_p220 1 rfl
theorem dX9_like_4 : decode cX9_like 4 = .ok (.ifCond .eq 10, 3) := dz_at dqX9_like_p220 2 rfl
theorem dX9_like_7 : decode cX9_like 7 = .ok (.iload_n 2, 1) := dz_at dqX9_like_p220 3 rfl
theorem dX9_like_8 : decode cX9_like 8 = .ok (.invokestatic 103, 3) := dz_at dqX9_like_p220 4 rfl
theorem dX9_like_11 : decode cX9_like 11 = .ok (.ifCond .ne 6, 3) := dz_at dqX9_like_p220 5 rfl
theorem dX9_like_14 : decode cX9_like 14 = .ok (.bipush (-2), 2) := dz_at dqX9_like_p220 6 rfl
theorem dX9_like_16 : decode cX9_like 16 = .ok (.ireturn, 1) := dz_at dqX9_like_p220 7 rfl
theorem dX9_like_17 : decode cX9_like 17 = .ok (.aload_n 0, 1) := dz_at dqX9_like_p220 8 rfl
theorem dX9_like_18 : decode cX9_like 18 = .ok (.getfield 19, 3) := dz_at dqX9_like_p220 9 rfl
theorem dX9_like_21 : decode cX9_like 21 = .ok (.iload_n 1, 1) := dz_at dqX9_like_p220 10 rfl
theorem dX9_like_22 : decode cX9_like 22 = .ok (.iload_n 2, 1) := dz_at dqX9_like_p220 11 rfl
theorem dX9_like_23 : decode cX9_like 23 = .ok (.invokevirtual 113, 3) := dz_at dqX9_like_p220 12 rfl
theorem dX9_like_26 : decode cX9_like 26 = .ok (.ireturn, 1) := dz_at dqX9_like_p220 13 rfl
set_option maxRecDepth 20000 in
theorem ggX9_set_X9_within : GoodIn wsX9_set wsX9_within := goodIn_r _ [5] rfl (by decide +kernel)
set_option maxRecDepth 20000 in
theorem gX9_set_X9_within : GoodIn wsX9_set (va_wsS RX9 106 yX9_within wsX9_within) := goodIn_app (goodIn_of _ (by decide +kernel)) ggX9_set_X9_within
set_option maxRecDepth 20000 in
theorem dqX9_set_p220 : dz_rn 0 (cX9_set.data.toList.drop 0) [(0, 1), (4, 8), (0, 2), (0, 9), (2, 0), (3, 2), (4, 7), (0, 4), (3, 0), (3, 0), (0, 21), (0, 4), (3, 0), (0, 2)] = some [(0, .iload_n 1, 1), (1, .ifCond .ne 32, 3), (4, .iload_n 2, 1), (5, .iconst 1, 1), (6, .bipush 8, 2), (8, .invokestatic 106, 3), (11, .ifCond .eq 22, 3), (14, .aload_n 0, 1), (15, .getfield 28, 3), (18, .getfield 116, 3), (21, .istore_n 3, 1), (22, .aload_n 0, 1), (23, .getfield 28, 3), (26, .iload_n 2, 1)] := by decide +kernel
theorem dX9_set_0 : decode cX9_set 0 = .ok (.iload_n 1, 1) := dz_at dqX9_set_p220 0 rfl
theorem dX9_set_1 : decode cX9_set 1 = .ok (.ifCond .ne 32, 3) := dz_at dqX9_set_p220 1 rfl
theorem dX9_set_4 : decode cX9_set 4 = .ok (.iload_n 2, 1) := dz_at dqX9_set_p220 2 rfl
theorem dX9_set_5 : decode cX9_set 5 = .ok (.iconst 1, 1) := dz_at dqX9_set_p220 3 rfl
theorem dX9_set_6 : decode cX9_set 6 = .ok (.bipush 8, 2) := dz_at dqX9_set_p220 4 rfl
theorem dX9_set_8 : decode cX9_set 8 = .ok (.invokestatic 106, 3) := dz_at dqX9_set_p220 5 rfl
theorem dX9_set_11 : decode cX9_set 11 = .ok (.ifCond .eq 22, 3) := dz_at dqX9_set_p220 6 rfl
theorem dX9_set_14 : decode cX9_set 14 = .ok (.aload_n 0, 1) := dz_at dqX9_set_p220 7 rfl
theorem dX9_set_15 : decode cX9_set 15 = .ok (.getfield 28, 3) := dz_at dqX9_set_p220 8 rfl
theorem dX9_set_18 : decode cX9_set 18 = .ok (.getfield 116, 3) := dz_at dqX9_set_p220 9 rfl
theorem dX9_set_21 : decode cX9_set 21 = .ok (.istore_n 3, 1) := dz_at dqX9_set_p220 10 rfl
theorem dX9_set_22 : decode cX9_set 22 = .ok (.aload_n 0, 1) := dz_at dqX9_set_p220 11 rfl
theorem dX9_set_23 : decode cX9_set 23 = .ok (.getfield 28, 3) := dz_at dqX9_set_p220 12 rfl
theorem dX9_set_26 : decode cX9_set 26 = .ok (.iload_n 2, 1) := dz_at dqX9_set_p220 13 rfl
set_option maxRecDepth 20000 in
theorem dqX9_set_p221 : dz_rn 27 (cX9_set.data.toList.drop 27) [(3, 3), (4, 0), (0, 1), (0, 9), (4, 2), (0, 2), (0, 8), (2, 0), (3, 2), (4, 7), (0, 4), (3, 0), (3, 0), (0, 21)] = some [(27, .putfield 116, 3), (30, .goto 40, 3), (33, .iload_n 1, 1), (34, .iconst 1, 1), (35, .if_icmp .ne 32, 3), (38, .iload_n 2, 1), (39, .iconst 0, 1), (40, .bipush 100, 2), (42, .invokestatic 106, 3), (45, .ifCond .eq 22, 3), (48, .aload_n 0, 1), (49, .getfield 28, 3), (52, .getfield 119, 3), (55, .istore_n 3, 1)] := by decide +kernel
theorem dX9_set_27 : decode cX9_set 27 = .ok (.putfield 116, 3) := dz_at dqX9_set_p221 0 rfl
theorem dX9_set_30 : decode cX9_set 30 = .ok (.goto 40, 3) := dz_at dqX9_set_p221 1 rfl
theorem dX9_set_33 : decode cX9_set 33 = .ok (.iload_n 1, 1) := dz_at dqX9_set_p221 2 rfl
theorem dX9_set_34 : decode cX9_set 34 = .ok (.iconst 1, 1) := dz_at dqX9_set_p221 3 rfl
theorem dX9_set_35 : decode cX9_set 35 = .ok (.if_icmp .ne 32, 3) := dz_at dqX9_set_p221 4 rfl
theorem dX9_set_38 : decode cX9_set 38 = .ok (.iload_n 2, 1) := dz_at dqX9_set_p221 5 rfl
theorem dX9_set_39 : decode cX9_set 39 = .ok (.iconst 0, 1) := dz_at dqX9_set_p221 6 rfl
theorem dX9_set_40 : decode cX9_set 40 = .ok (.bipush 100, 2) := dz_at dqX9_set_p221 7 rfl
theorem dX9_set_42 : decode cX9_set 42 = .ok (.invokestatic 106, 3) := dz_at dqX9_set_p221 8 rfl
theorem dX9_set_45 : decode cX9_set 45 = .ok (.ifCond .eq 22, 3) := dz_at dqX9_set_p221 9 rfl
theorem dX9_set_48 : decode cX9_set 48 = .ok (.aload_n 0, 1) := dz_at dqX9_set_p221 10 rfl
theorem dX9_set_49 : decode cX9_set 49 = .ok (.getfield 28, 3) := dz_at dqX9_set_p221 11 rfl
theorem dX9_set_52 : decode cX9_set 52 = .ok (.getfield 119, 3) := dz_at dqX9_set_p221 12 rfl
theorem dX9_set_55 : decode cX9_set 55 = .ok (.istore_n 3, 1) := dz_at dqX9_set_p221 13 rfl
set_option maxRecDepth 20000 in
theorem dqX9_set_p222 : dz_rn 56 (cX9_set.data.toList.drop 56) [(0, 4), (3, 0), (0, 2), (3, 3), (4, 0), (2, 0), (0, 21), (0, 3), (0, 12)] = some [(56, .aload_n 0, 1), (57, .getfield 28, 3), (60, .iload_n 2, 1), (61, .putfield 119, 3), (64, .goto 6, 3), (67, .bipush (-3), 2), (69, .istore_n 3, 1), (70, .iload_n 3, 1), (71, .ireturn, 1)] := by decide +kernel
theorem dX9_set_56 : decode cX9_set 56 = .ok (.aload_n 0, 1) := dz_at dqX9_set_p222 0 rfl
theorem dX9_set_57 : decode cX9_set 57 = .ok (.getfield 28, 3) := dz_at dqX9_set_p222 1 rfl
theorem dX9_set_60 : decode cX9_set 60 = .ok (.iload_n 2, 1) := dz_at dqX9_set_p222 2 rfl
theorem dX9_set_61 : decode cX9_set 61 = .ok (.putfield 119, 3) := dz_at dqX9_set_p222 3 rfl
theorem dX9_set_64 : decode cX9_set 64 = .ok (.goto 6, 3) := dz_at dqX9_set_p222 4 rfl
theorem dX9_set_67 : decode cX9_set 67 = .ok (.bipush (-3), 2) := dz_at dqX9_set_p222 5 rfl
theorem dX9_set_69 : decode cX9_set 69 = .ok (.istore_n 3, 1) := dz_at dqX9_set_p222 6 rfl
theorem dX9_set_70 : decode cX9_set 70 = .ok (.iload_n 3, 1) := dz_at dqX9_set_p222 7 rfl
theorem dX9_set_71 : decode cX9_set 71 = .ok (.ireturn, 1) := dz_at dqX9_set_p222 8 rfl
set_option maxRecDepth 20000 in
theorem ggX9_fall_X9_within : GoodIn wsX9_fall wsX9_within := goodIn_r _ [5] rfl (by decide +kernel)
set_option maxRecDepth 20000 in
theorem gX9_fall_X9_within : GoodIn wsX9_fall (va_wsS RX9 106 yX9_within wsX9_within) := goodIn_app (goodIn_of _ (by decide +kernel)) ggX9_fall_X9_within
set_option maxRecDepth 20000 in
theorem dqX9_fall_p220 : dz_rn 0 (cX9_fall.data.toList.drop 0) [(0, 1), (0, 8), (2, 0), (3, 2), (4, 7), (0, 2), (0, 8), (2, 0), (3, 2), (4, 8), (2, 0), (0, 12), (0, 4), (3, 0)] = some [(0, .iload_n 1, 1), (1, .iconst 0, 1), (2, .bipush 10, 2), (4, .invokestatic 106, 3), (7, .ifCond .eq 13, 3), (10, .iload_n 2, 1), (11, .iconst 0, 1), (12, .bipush 30, 2), (14, .invokestatic 106, 3), (17, .ifCond .ne 6, 3), (20, .bipush (-3), 2), (22, .ireturn, 1), (23, .aload_n 0, 1), (24, .getfield 28, 3)] := by decide +kernel
theorem dX9_fall_0 : decode cX9_fall 0 = .ok (.iload_n 1, 1) := dz_at dqX9_fall_p220 0 rfl
theorem dX9_fall_1 : decode cX9_fall 1 = .ok (.iconst 0, 1) := dz_at dqX9_fall_p220 1 rfl
theorem dX9_fall_2 : decode cX9_fall 2 = .ok (.bipush 10, 2) := dz_at dqX9_fall_p220 2 rfl
theorem dX9_fall_4 : decode cX9_fall 4 = .ok (.invokestatic 106, 3) := dz_at dqX9_fall_p220 3 rfl
theorem dX9_fall_7 : decode cX9_fall 7 = .ok (.ifCond .eq 13, 3) := dz_at dqX9_fall_p220 4 rfl
theorem dX9_fall_10 : decode cX9_fall 10 = .ok (.iload_n 2, 1) := dz_at dqX9_fall_p220 5 rfl
theorem dX9_fall_11 : decode cX9_fall 11 = .ok (.iconst 0, 1) := dz_at dqX9_fall_p220 6 rfl
theorem dX9_fall_12 : decode cX9_fall 12 = .ok (.bipush 30, 2) := dz_at dqX9_fall_p220 7 rfl
theorem dX9_fall_14 : decode cX9_fall 14 = .ok (.invokestatic 106, 3) := dz_at dqX9_fall_p220 8 rfl
theorem dX9_fall_17 : decode cX9_fall 17 = .ok (.ifCond .ne 6, 3) := dz_at dqX9_fall_p220 9 rfl
theorem dX9_fall_20 : decode cX9_fall 20 = .ok (.bipush (-3), 2) := dz_at dqX9_fall_p220 10 rfl
theorem dX9_fall_22 : decode cX9_fall 22 = .ok (.ireturn, 1) := dz_at dqX9_fall_p220 11 rfl
theorem dX9_fall_23 : decode cX9_fall 23 = .ok (.aload_n 0, 1) := dz_at dqX9_fall_p220 12 rfl
theorem dX9_fall_24 : decode cX9_fall 24 = .ok (.getfield 28, 3) := dz_at dqX9_fall_p220 13 rfl
set_option maxRecDepth 20000 in
theorem dqX9_fall_p221 : dz_rn 27 (cX9_fall.data.toList.drop 27) [(3, 0), (0, 1), (0, 10), (0, 21), (0, 4), (3, 0), (3, 0), (0, 1), (0, 2), (0, 22), (0, 3), (0, 12)] = some [(27, .getfield 122, 3), (30, .iload_n 1, 1), (31, .iaload, 1), (32, .istore_n 3, 1), (33, .aload_n 0, 1), (34, .getfield 28, 3), (37, .getfield 122, 3), (40, .iload_n 1, 1), (41, .iload_n 2, 1), (42, .iastore, 1), (43, .iload_n 3, 1), (44, .ireturn, 1)] := by decide +kernel
theorem dX9_fall_27 : decode cX9_fall 27 = .ok (.getfield 122, 3) := dz_at dqX9_fall_p221 0 rfl
theorem dX9_fall_30 : decode cX9_fall 30 = .ok (.iload_n 1, 1) := dz_at dqX9_fall_p221 1 rfl
theorem dX9_fall_31 : decode cX9_fall 31 = .ok (.iaload, 1) := dz_at dqX9_fall_p221 2 rfl
theorem dX9_fall_32 : decode cX9_fall 32 = .ok (.istore_n 3, 1) := dz_at dqX9_fall_p221 3 rfl
theorem dX9_fall_33 : decode cX9_fall 33 = .ok (.aload_n 0, 1) := dz_at dqX9_fall_p221 4 rfl
theorem dX9_fall_34 : decode cX9_fall 34 = .ok (.getfield 28, 3) := dz_at dqX9_fall_p221 5 rfl
theorem dX9_fall_37 : decode cX9_fall 37 = .ok (.getfield 122, 3) := dz_at dqX9_fall_p221 6 rfl
theorem dX9_fall_40 : decode cX9_fall 40 = .ok (.iload_n 1, 1) := dz_at dqX9_fall_p221 7 rfl
theorem dX9_fall_41 : decode cX9_fall 41 = .ok (.iload_n 2, 1) := dz_at dqX9_fall_p221 8 rfl
theorem dX9_fall_42 : decode cX9_fall 42 = .ok (.iastore, 1) := dz_at dqX9_fall_p221 9 rfl
theorem dX9_fall_43 : decode cX9_fall 43 = .ok (.iload_n 3, 1) := dz_at dqX9_fall_p221 10 rfl
theorem dX9_fall_44 : decode cX9_fall 44 = .ok (.ireturn, 1) := dz_at dqX9_fall_p221 11 rfl
set_option maxRecDepth 20000 in
theorem ggX9_put_X9_isThing : GoodIn wsX9_put wsX9_isThing := goodIn_r _ [5, 6, 7, 4, 8] rfl (by decide +kernel)
set_option maxRecDepth 20000 in
theorem gX9_put_X9_isThing : GoodIn wsX9_put (va_wsS RX9 103 yX9_isThing wsX9_isThing) := goodIn_app (goodIn_of _ (by decide +kernel)) ggX9_put_X9_isThing
set_option maxRecDepth 20000 in
theorem ggX9_put_X9_isCorner : GoodIn wsX9_put wsX9_isCorner := goodIn_r _ [11, 6, 7, 4, 8] rfl (by decide +kernel)
set_option maxRecDepth 20000 in
theorem gX9_put_X9_isCorner : GoodIn wsX9_put (va_wsS RX9 125 yX9_isCorner wsX9_isCorner) := goodIn_app (goodIn_of _ (by decide +kernel)) ggX9_put_X9_isCorner
set_option maxRecDepth 20000 in
theorem ggX9_put_X1_cover : GoodIn wsX9_put wsX1_cover := goodIn_r _ [16, 17, 18, 19, 20, 21, 22, 23, 35, 36, 37, 38, 39, 40, 41, 42, 43, 44, 45, 46, 47] rfl (by decide +kernel)
set_option maxRecDepth 20000 in
theorem gX9_put_X1_cover : GoodIn wsX9_put (wsV RX9 134 RX1 yX1_cover wsX1_cover) := goodIn_app (goodIn_of _ (by decide +kernel)) ggX9_put_X1_cover
set_option maxRecDepth 20000 in
theorem dqX9_put_p220 : dz_rn 0 (cX9_put.data.toList.drop 0) [(0, 1), (3, 2), (4, 7), (0, 2), (3, 2), (4, 8), (2, 0), (0, 12), (0, 4), (3, 0), (3, 0), (0, 1), (0, 10), (0, 13)] = some [(0, .iload_n 1, 1), (1, .invokestatic 103, 3), (4, .ifCond .eq 10, 3), (7, .iload_n 2, 1), (8, .invokestatic 125, 3), (11, .ifCond .ne 6, 3), (14, .bipush (-2), 2), (16, .ireturn, 1), (17, .aload_n 0, 1), (18, .getfield 28, 3), (21, .getfield 128, 3), (24, .iload_n 1, 1), (25, .iaload, 1), (26, .iconst (-1), 1)] := by decide +kernel
theorem dX9_put_0 : decode cX9_put 0 = .ok (.iload_n 1, 1) := dz_at dqX9_put_p220 0 rfl
theorem dX9_put_1 : decode cX9_put 1 = .ok (.invokestatic 103, 3) := dz_at dqX9_put_p220 1 rfl
theorem dX9_put_4 : decode cX9_put 4 = .ok (.ifCond .eq 10, 3) := dz_at dqX9_put_p220 2 rfl
theorem dX9_put_7 : decode cX9_put 7 = .ok (.iload_n 2, 1) := dz_at dqX9_put_p220 3 rfl
theorem dX9_put_8 : decode cX9_put 8 = .ok (.invokestatic 125, 3) := dz_at dqX9_put_p220 4 rfl
theorem dX9_put_11 : decode cX9_put 11 = .ok (.ifCond .ne 6, 3) := dz_at dqX9_put_p220 5 rfl
theorem dX9_put_14 : decode cX9_put 14 = .ok (.bipush (-2), 2) := dz_at dqX9_put_p220 6 rfl
theorem dX9_put_16 : decode cX9_put 16 = .ok (.ireturn, 1) := dz_at dqX9_put_p220 7 rfl
theorem dX9_put_17 : decode cX9_put 17 = .ok (.aload_n 0, 1) := dz_at dqX9_put_p220 8 rfl
theorem dX9_put_18 : decode cX9_put 18 = .ok (.getfield 28, 3) := dz_at dqX9_put_p220 9 rfl
theorem dX9_put_21 : decode cX9_put 21 = .ok (.getfield 128, 3) := dz_at dqX9_put_p220 10 rfl
theorem dX9_put_24 : decode cX9_put 24 = .ok (.iload_n 1, 1) := dz_at dqX9_put_p220 11 rfl
theorem dX9_put_25 : decode cX9_put 25 = .ok (.iaload, 1) := dz_at dqX9_put_p220 12 rfl
theorem dX9_put_26 : decode cX9_put 26 = .ok (.iconst (-1), 1) := dz_at dqX9_put_p220 13 rfl
set_option maxRecDepth 20000 in
theorem dqX9_put_p221 : dz_rn 27 (cX9_put.data.toList.drop 27) [(4, 1), (2, 0), (0, 12), (0, 4), (3, 0), (3, 0), (0, 2), (0, 10), (0, 21), (0, 4), (3, 0), (0, 2), (0, 1), (3, 1)] = some [(27, .if_icmp .eq 6, 3), (30, .bipush (-4), 2), (32, .ireturn, 1), (33, .aload_n 0, 1), (34, .getfield 28, 3), (37, .getfield 131, 3), (40, .iload_n 2, 1), (41, .iaload, 1), (42, .istore_n 3, 1), (43, .aload_n 0, 1), (44, .getfield 28, 3), (47, .iload_n 2, 1), (48, .iload_n 1, 1), (49, .invokevirtual 134, 3)] := by decide +kernel
theorem dX9_put_27 : decode cX9_put 27 = .ok (.if_icmp .eq 6, 3) := dz_at dqX9_put_p221 0 rfl
theorem dX9_put_30 : decode cX9_put 30 = .ok (.bipush (-4), 2) := dz_at dqX9_put_p221 1 rfl
theorem dX9_put_32 : decode cX9_put 32 = .ok (.ireturn, 1) := dz_at dqX9_put_p221 2 rfl
theorem dX9_put_33 : decode cX9_put 33 = .ok (.aload_n 0, 1) := dz_at dqX9_put_p221 3 rfl
theorem dX9_put_34 : decode cX9_put 34 = .ok (.getfield 28, 3) := dz_at dqX9_put_p221 4 rfl
theorem dX9_put_37 : decode cX9_put 37 = .ok (.getfield 131, 3) := dz_at dqX9_put_p221 5 rfl
theorem dX9_put_40 : decode cX9_put 40 = .ok (.iload_n 2, 1) := dz_at dqX9_put_p221 6 rfl
theorem dX9_put_41 : decode cX9_put 41 = .ok (.iaload, 1) := dz_at dqX9_put_p221 7 rfl
theorem dX9_put_42 : decode cX9_put 42 = .ok (.istore_n 3, 1) := dz_at dqX9_put_p221 8 rfl
theorem dX9_put_43 : decode cX9_put 43 = .ok (.aload_n 0, 1) := dz_at dqX9_put_p221 9 rfl
theorem dX9_put_44 : decode cX9_put 44 = .ok (.getfield 28, 3) := dz_at dqX9_put_p221 10 rfl
theorem dX9_put_47 : decode cX9_put 47 = .ok (.iload_n 2, 1) := dz_at dqX9_put_p221 11 rfl
theorem dX9_put_48 : decode cX9_put 48 = .ok (.iload_n 1, 1) := dz_at dqX9_put_p221 12 rfl
theorem dX9_put_49 : decode cX9_put 49 = .ok (.invokevirtual 134, 3) := dz_at dqX9_put_p221 13 rfl
set_option maxRecDepth 20000 in
theorem dqX9_put_p222 : dz_rn 52 (cX9_put.data.toList.drop 52) [(0, 3), (0, 12)] = some [(52, .iload_n 3, 1), (53, .ireturn, 1)] := by decide +kernel
theorem dX9_put_52 : decode cX9_put 52 = .ok (.iload_n 3, 1) := dz_at dqX9_put_p222 0 rfl
theorem dX9_put_53 : decode cX9_put 53 = .ok (.ireturn, 1) := dz_at dqX9_put_p222 1 rfl
set_option maxRecDepth 20000 in
theorem ggX9_clear_X9_isCorner : GoodIn wsX9_clear wsX9_isCorner := goodIn_r _ [5, 6, 7, 4, 8] rfl (by decide +kernel)
set_option maxRecDepth 20000 in
theorem gX9_clear_X9_isCorner : GoodIn wsX9_clear (va_wsS RX9 125 yX9_isCorner wsX9_isCorner) := goodIn_app (goodIn_of _ (by decide +kernel)) ggX9_clear_X9_isCorner
set_option maxRecDepth 20000 in
theorem ggX9_clear_X1_takeOff : GoodIn wsX9_clear wsX1_takeOff := goodIn_r _ [13, 14, 15, 16, 28, 29, 30, 31, 32, 33, 34, 35, 36, 37, 38, 39, 40] rfl (by decide +kernel)
set_option maxRecDepth 20000 in
theorem gX9_clear_X1_takeOff : GoodIn wsX9_clear (wsV RX9 137 RX1 yX1_takeOff wsX1_takeOff) := goodIn_app (goodIn_of _ (by decide +kernel)) ggX9_clear_X1_takeOff
set_option maxRecDepth 20000 in
theorem dqX9_clear_p220 : dz_rn 0 (cX9_clear.data.toList.drop 0) [(0, 1), (3, 2), (4, 8), (2, 0), (0, 12), (0, 4), (3, 0), (3, 0), (0, 1), (0, 10), (0, 20), (0, 2), (0, 13), (4, 2)] = some [(0, .iload_n 1, 1), (1, .invokestatic 125, 3), (4, .ifCond .ne 6, 3), (7, .bipush (-2), 2), (9, .ireturn, 1), (10, .aload_n 0, 1), (11, .getfield 28, 3), (14, .getfield 131, 3), (17, .iload_n 1, 1), (18, .iaload, 1), (19, .istore_n 2, 1), (20, .iload_n 2, 1), (21, .iconst (-1), 1), (22, .if_icmp .ne 6, 3)] := by decide +kernel
theorem dX9_clear_0 : decode cX9_clear 0 = .ok (.iload_n 1, 1) := dz_at dqX9_clear_p220 0 rfl
theorem dX9_clear_1 : decode cX9_clear 1 = .ok (.invokestatic 125, 3) := dz_at dqX9_clear_p220 1 rfl
theorem dX9_clear_4 : decode cX9_clear 4 = .ok (.ifCond .ne 6, 3) := dz_at dqX9_clear_p220 2 rfl
theorem dX9_clear_7 : decode cX9_clear 7 = .ok (.bipush (-2), 2) := dz_at dqX9_clear_p220 3 rfl
theorem dX9_clear_9 : decode cX9_clear 9 = .ok (.ireturn, 1) := dz_at dqX9_clear_p220 4 rfl
theorem dX9_clear_10 : decode cX9_clear 10 = .ok (.aload_n 0, 1) := dz_at dqX9_clear_p220 5 rfl
theorem dX9_clear_11 : decode cX9_clear 11 = .ok (.getfield 28, 3) := dz_at dqX9_clear_p220 6 rfl
theorem dX9_clear_14 : decode cX9_clear 14 = .ok (.getfield 131, 3) := dz_at dqX9_clear_p220 7 rfl
theorem dX9_clear_17 : decode cX9_clear 17 = .ok (.iload_n 1, 1) := dz_at dqX9_clear_p220 8 rfl
theorem dX9_clear_18 : decode cX9_clear 18 = .ok (.iaload, 1) := dz_at dqX9_clear_p220 9 rfl
theorem dX9_clear_19 : decode cX9_clear 19 = .ok (.istore_n 2, 1) := dz_at dqX9_clear_p220 10 rfl
theorem dX9_clear_20 : decode cX9_clear 20 = .ok (.iload_n 2, 1) := dz_at dqX9_clear_p220 11 rfl
theorem dX9_clear_21 : decode cX9_clear 21 = .ok (.iconst (-1), 1) := dz_at dqX9_clear_p220 12 rfl
theorem dX9_clear_22 : decode cX9_clear 22 = .ok (.if_icmp .ne 6, 3) := dz_at dqX9_clear_p220 13 rfl
set_option maxRecDepth 20000 in
theorem dqX9_clear_p221 : dz_rn 25 (cX9_clear.data.toList.drop 25) [(2, 0), (0, 12), (0, 4), (3, 0), (0, 1), (3, 1), (0, 2), (0, 12)] = some [(25, .bipush (-4), 2), (27, .ireturn, 1), (28, .aload_n 0, 1), (29, .getfield 28, 3), (32, .iload_n 1, 1), (33, .invokevirtual 137, 3), (36, .iload_n 2, 1), (37, .ireturn, 1)] := by decide +kernel
theorem dX9_clear_25 : decode cX9_clear 25 = .ok (.bipush (-4), 2) := dz_at dqX9_clear_p221 0 rfl
theorem dX9_clear_27 : decode cX9_clear 27 = .ok (.ireturn, 1) := dz_at dqX9_clear_p221 1 rfl
theorem dX9_clear_28 : decode cX9_clear 28 = .ok (.aload_n 0, 1) := dz_at dqX9_clear_p221 2 rfl
theorem dX9_clear_29 : decode cX9_clear 29 = .ok (.getfield 28, 3) := dz_at dqX9_clear_p221 3 rfl
theorem dX9_clear_32 : decode cX9_clear 32 = .ok (.iload_n 1, 1) := dz_at dqX9_clear_p221 4 rfl
theorem dX9_clear_33 : decode cX9_clear 33 = .ok (.invokevirtual 137, 3) := dz_at dqX9_clear_p221 5 rfl
theorem dX9_clear_36 : decode cX9_clear 36 = .ok (.iload_n 2, 1) := dz_at dqX9_clear_p221 6 rfl
theorem dX9_clear_37 : decode cX9_clear 37 = .ok (.ireturn, 1) := dz_at dqX9_clear_p221 7 rfl
set_option maxRecDepth 20000 in
theorem ggX9_corner_X9_isCorner : GoodIn wsX9_corner wsX9_isCorner := goodIn_r _ [5, 6, 7, 4, 8] rfl (by decide +kernel)
set_option maxRecDepth 20000 in
theorem gX9_corner_X9_isCorner : GoodIn wsX9_corner (va_wsS RX9 125 yX9_isCorner wsX9_isCorner) := goodIn_app (goodIn_of _ (by decide +kernel)) ggX9_corner_X9_isCorner
set_option maxRecDepth 20000 in
theorem dqX9_corner_p220 : dz_rn 0 (cX9_corner.data.toList.drop 0) [(0, 1), (3, 2), (4, 8), (2, 0), (0, 12), (0, 2)] = some [(0, .iload_n 1, 1), (1, .invokestatic 125, 3), (4, .ifCond .ne 6, 3), (7, .bipush (-2), 2), (9, .ireturn, 1), (10, .iload_n 2, 1)] := by decide +kernel
theorem dX9_corner_0 : decode cX9_corner 0 = .ok (.iload_n 1, 1) := dz_at dqX9_corner_p220 0 rfl
theorem dX9_corner_1 : decode cX9_corner 1 = .ok (.invokestatic 125, 3) := dz_at dqX9_corner_p220 1 rfl
theorem dX9_corner_4 : decode cX9_corner 4 = .ok (.ifCond .ne 6, 3) := dz_at dqX9_corner_p220 2 rfl
theorem dX9_corner_7 : decode cX9_corner 7 = .ok (.bipush (-2), 2) := dz_at dqX9_corner_p220 3 rfl
theorem dX9_corner_9 : decode cX9_corner 9 = .ok (.ireturn, 1) := dz_at dqX9_corner_p220 4 rfl
theorem dX9_corner_10 : decode cX9_corner 10 = .ok (.iload_n 2, 1) := dz_at dqX9_corner_p220 5 rfl
theorem dX9_corner_11 : decode cX9_corner 11 = .ok (.tableswitch 117 0 4 #[33, 43, 70, 80, 107], 33) := by decide +kernel
set_option maxRecDepth 20000 in
theorem dqX9_corner_p221 : dz_rn 44 (cX9_corner.data.toList.drop 44) [(0, 4), (3, 0), (3, 0), (0, 1), (0, 10), (0, 12), (0, 4), (3, 0), (3, 0), (0, 1), (0, 10), (0, 13), (4, 2), (0, 13)] = some [(44, .aload_n 0, 1), (45, .getfield 28, 3), (48, .getfield 131, 3), (51, .iload_n 1, 1), (52, .iaload, 1), (53, .ireturn, 1), (54, .aload_n 0, 1), (55, .getfield 28, 3), (58, .getfield 131, 3), (61, .iload_n 1, 1), (62, .iaload, 1), (63, .iconst (-1), 1), (64, .if_icmp .ne 7, 3), (67, .iconst (-1), 1)] := by decide +kernel
theorem dX9_corner_44 : decode cX9_corner 44 = .ok (.aload_n 0, 1) := dz_at dqX9_corner_p221 0 rfl
theorem dX9_corner_45 : decode cX9_corner 45 = .ok (.getfield 28, 3) := dz_at dqX9_corner_p221 1 rfl
theorem dX9_corner_48 : decode cX9_corner 48 = .ok (.getfield 131, 3) := dz_at dqX9_corner_p221 2 rfl
theorem dX9_corner_51 : decode cX9_corner 51 = .ok (.iload_n 1, 1) := dz_at dqX9_corner_p221 3 rfl
theorem dX9_corner_52 : decode cX9_corner 52 = .ok (.iaload, 1) := dz_at dqX9_corner_p221 4 rfl
theorem dX9_corner_53 : decode cX9_corner 53 = .ok (.ireturn, 1) := dz_at dqX9_corner_p221 5 rfl
theorem dX9_corner_54 : decode cX9_corner 54 = .ok (.aload_n 0, 1) := dz_at dqX9_corner_p221 6 rfl
theorem dX9_corner_55 : decode cX9_corner 55 = .ok (.getfield 28, 3) := dz_at dqX9_corner_p221 7 rfl
theorem dX9_corner_58 : decode cX9_corner 58 = .ok (.getfield 131, 3) := dz_at dqX9_corner_p221 8 rfl
theorem dX9_corner_61 : decode cX9_corner 61 = .ok (.iload_n 1, 1) := dz_at dqX9_corner_p221 9 rfl
theorem dX9_corner_62 : decode cX9_corner 62 = .ok (.iaload, 1) := dz_at dqX9_corner_p221 10 rfl
theorem dX9_corner_63 : decode cX9_corner 63 = .ok (.iconst (-1), 1) := dz_at dqX9_corner_p221 11 rfl
theorem dX9_corner_64 : decode cX9_corner 64 = .ok (.if_icmp .ne 7, 3) := dz_at dqX9_corner_p221 12 rfl
theorem dX9_corner_67 : decode cX9_corner 67 = .ok (.iconst (-1), 1) := dz_at dqX9_corner_p221 13 rfl
set_option maxRecDepth 20000 in
theorem dqX9_corner_p222 : dz_rn 68 (cX9_corner.data.toList.drop 68) [(4, 0), (0, 4), (3, 0), (3, 0), (0, 1), (0, 10), (0, 12), (0, 4), (3, 0), (3, 0), (0, 1), (0, 10), (0, 12), (0, 4)] = some [(68, .goto 12, 3), (71, .aload_n 0, 1), (72, .getfield 28, 3), (75, .getfield 141, 3), (78, .iload_n 1, 1), (79, .iaload, 1), (80, .ireturn, 1), (81, .aload_n 0, 1), (82, .getfield 28, 3), (85, .getfield 144, 3), (88, .iload_n 1, 1), (89, .iaload, 1), (90, .ireturn, 1), (91, .aload_n 0, 1)] := by decide +kernel
theorem dX9_corner_68 : decode cX9_corner 68 = .ok (.goto 12, 3) := dz_at dqX9_corner_p222 0 rfl
theorem dX9_corner_71 : decode cX9_corner 71 = .ok (.aload_n 0, 1) := dz_at dqX9_corner_p222 1 rfl
theorem dX9_corner_72 : decode cX9_corner 72 = .ok (.getfield 28, 3) := dz_at dqX9_corner_p222 2 rfl
theorem dX9_corner_75 : decode cX9_corner 75 = .ok (.getfield 141, 3) := dz_at dqX9_corner_p222 3 rfl
theorem dX9_corner_78 : decode cX9_corner 78 = .ok (.iload_n 1, 1) := dz_at dqX9_corner_p222 4 rfl
theorem dX9_corner_79 : decode cX9_corner 79 = .ok (.iaload, 1) := dz_at dqX9_corner_p222 5 rfl
theorem dX9_corner_80 : decode cX9_corner 80 = .ok (.ireturn, 1) := dz_at dqX9_corner_p222 6 rfl
theorem dX9_corner_81 : decode cX9_corner 81 = .ok (.aload_n 0, 1) := dz_at dqX9_corner_p222 7 rfl
theorem dX9_corner_82 : decode cX9_corner 82 = .ok (.getfield 28, 3) := dz_at dqX9_corner_p222 8 rfl
theorem dX9_corner_85 : decode cX9_corner 85 = .ok (.getfield 144, 3) := dz_at dqX9_corner_p222 9 rfl
theorem dX9_corner_88 : decode cX9_corner 88 = .ok (.iload_n 1, 1) := dz_at dqX9_corner_p222 10 rfl
theorem dX9_corner_89 : decode cX9_corner 89 = .ok (.iaload, 1) := dz_at dqX9_corner_p222 11 rfl
theorem dX9_corner_90 : decode cX9_corner 90 = .ok (.ireturn, 1) := dz_at dqX9_corner_p222 12 rfl
theorem dX9_corner_91 : decode cX9_corner 91 = .ok (.aload_n 0, 1) := dz_at dqX9_corner_p222 13 rfl
set_option maxRecDepth 20000 in
theorem dqX9_corner_p223 : dz_rn 92 (cX9_corner.data.toList.drop 92) [(3, 0), (3, 0), (0, 1), (0, 10), (0, 13), (4, 2), (0, 13), (4, 0), (0, 4), (3, 0), (3, 0), (0, 1), (0, 10), (0, 12)] = some [(92, .getfield 28, 3), (95, .getfield 144, 3), (98, .iload_n 1, 1), (99, .iaload, 1), (100, .iconst (-1), 1), (101, .if_icmp .ne 7, 3), (104, .iconst (-1), 1), (105, .goto 12, 3), (108, .aload_n 0, 1), (109, .getfield 28, 3), (112, .getfield 147, 3), (115, .iload_n 1, 1), (116, .iaload, 1), (117, .ireturn, 1)] := by decide +kernel
theorem dX9_corner_92 : decode cX9_corner 92 = .ok (.getfield 28, 3) := dz_at dqX9_corner_p223 0 rfl
theorem dX9_corner_95 : decode cX9_corner 95 = .ok (.getfield 144, 3) := dz_at dqX9_corner_p223 1 rfl
theorem dX9_corner_98 : decode cX9_corner 98 = .ok (.iload_n 1, 1) := dz_at dqX9_corner_p223 2 rfl
theorem dX9_corner_99 : decode cX9_corner 99 = .ok (.iaload, 1) := dz_at dqX9_corner_p223 3 rfl
theorem dX9_corner_100 : decode cX9_corner 100 = .ok (.iconst (-1), 1) := dz_at dqX9_corner_p223 4 rfl
theorem dX9_corner_101 : decode cX9_corner 101 = .ok (.if_icmp .ne 7, 3) := dz_at dqX9_corner_p223 5 rfl
theorem dX9_corner_104 : decode cX9_corner 104 = .ok (.iconst (-1), 1) := dz_at dqX9_corner_p223 6 rfl
theorem dX9_corner_105 : decode cX9_corner 105 = .ok (.goto 12, 3) := dz_at dqX9_corner_p223 7 rfl
theorem dX9_corner_108 : decode cX9_corner 108 = .ok (.aload_n 0, 1) := dz_at dqX9_corner_p223 8 rfl
theorem dX9_corner_109 : decode cX9_corner 109 = .ok (.getfield 28, 3) := dz_at dqX9_corner_p223 9 rfl
theorem dX9_corner_112 : decode cX9_corner 112 = .ok (.getfield 147, 3) := dz_at dqX9_corner_p223 10 rfl
theorem dX9_corner_115 : decode cX9_corner 115 = .ok (.iload_n 1, 1) := dz_at dqX9_corner_p223 11 rfl
theorem dX9_corner_116 : decode cX9_corner 116 = .ok (.iaload, 1) := dz_at dqX9_corner_p223 12 rfl
theorem dX9_corner_117 : decode cX9_corner 117 = .ok (.ireturn, 1) := dz_at dqX9_corner_p223 13 rfl
set_option maxRecDepth 20000 in
theorem dqX9_corner_p224 : dz_rn 118 (cX9_corner.data.toList.drop 118) [(0, 4), (3, 0), (3, 0), (0, 1), (0, 10), (0, 12), (2, 0), (0, 12)] = some [(118, .aload_n 0, 1), (119, .getfield 28, 3), (122, .getfield 150, 3), (125, .iload_n 1, 1), (126, .iaload, 1), (127, .ireturn, 1), (128, .bipush (-3), 2), (130, .ireturn, 1)] := by decide +kernel
theorem dX9_corner_118 : decode cX9_corner 118 = .ok (.aload_n 0, 1) := dz_at dqX9_corner_p224 0 rfl
theorem dX9_corner_119 : decode cX9_corner 119 = .ok (.getfield 28, 3) := dz_at dqX9_corner_p224 1 rfl
theorem dX9_corner_122 : decode cX9_corner 122 = .ok (.getfield 150, 3) := dz_at dqX9_corner_p224 2 rfl
theorem dX9_corner_125 : decode cX9_corner 125 = .ok (.iload_n 1, 1) := dz_at dqX9_corner_p224 3 rfl
theorem dX9_corner_126 : decode cX9_corner 126 = .ok (.iaload, 1) := dz_at dqX9_corner_p224 4 rfl
theorem dX9_corner_127 : decode cX9_corner 127 = .ok (.ireturn, 1) := dz_at dqX9_corner_p224 5 rfl
theorem dX9_corner_128 : decode cX9_corner 128 = .ok (.bipush (-3), 2) := dz_at dqX9_corner_p224 6 rfl
theorem dX9_corner_130 : decode cX9_corner 130 = .ok (.ireturn, 1) := dz_at dqX9_corner_p224 7 rfl
set_option maxRecDepth 20000 in
theorem ggX9_where_X9_isThing : GoodIn wsX9_where wsX9_isThing := goodIn_r _ [5, 6, 7, 4, 8] rfl (by decide +kernel)
set_option maxRecDepth 20000 in
theorem gX9_where_X9_isThing : GoodIn wsX9_where (va_wsS RX9 103 yX9_isThing wsX9_isThing) := goodIn_app (goodIn_of _ (by decide +kernel)) ggX9_where_X9_isThing
set_option maxRecDepth 20000 in
theorem dqX9_where_p220 : dz_rn 0 (cX9_where.data.toList.drop 0) [(0, 1), (3, 2), (4, 7), (0, 4), (3, 0), (3, 0), (0, 1), (0, 10), (4, 0), (2, 0), (0, 12)] = some [(0, .iload_n 1, 1), (1, .invokestatic 103, 3), (4, .ifCond .eq 15, 3), (7, .aload_n 0, 1), (8, .getfield 28, 3), (11, .getfield 128, 3), (14, .iload_n 1, 1), (15, .iaload, 1), (16, .goto 5, 3), (19, .bipush (-2), 2), (21, .ireturn, 1)] := by decide +kernel
theorem dX9_where_0 : decode cX9_where 0 = .ok (.iload_n 1, 1) := dz_at dqX9_where_p220 0 rfl
theorem dX9_where_1 : decode cX9_where 1 = .ok (.invokestatic 103, 3) := dz_at dqX9_where_p220 1 rfl
theorem dX9_where_4 : decode cX9_where 4 = .ok (.ifCond .eq 15, 3) := dz_at dqX9_where_p220 2 rfl
theorem dX9_where_7 : decode cX9_where 7 = .ok (.aload_n 0, 1) := dz_at dqX9_where_p220 3 rfl
theorem dX9_where_8 : decode cX9_where 8 = .ok (.getfield 28, 3) := dz_at dqX9_where_p220 4 rfl
theorem dX9_where_11 : decode cX9_where 11 = .ok (.getfield 128, 3) := dz_at dqX9_where_p220 5 rfl
theorem dX9_where_14 : decode cX9_where 14 = .ok (.iload_n 1, 1) := dz_at dqX9_where_p220 6 rfl
theorem dX9_where_15 : decode cX9_where 15 = .ok (.iaload, 1) := dz_at dqX9_where_p220 7 rfl
theorem dX9_where_16 : decode cX9_where 16 = .ok (.goto 5, 3) := dz_at dqX9_where_p220 8 rfl
theorem dX9_where_19 : decode cX9_where 19 = .ok (.bipush (-2), 2) := dz_at dqX9_where_p220 9 rfl
theorem dX9_where_21 : decode cX9_where 21 = .ok (.ireturn, 1) := dz_at dqX9_where_p220 10 rfl
set_option maxRecDepth 20000 in
theorem ggX9_days_X9_within : GoodIn wsX9_days wsX9_within := goodIn_r _ [5] rfl (by decide +kernel)
set_option maxRecDepth 20000 in
theorem gX9_days_X9_within : GoodIn wsX9_days (va_wsS RX9 106 yX9_within wsX9_within) := goodIn_app (goodIn_of _ (by decide +kernel)) ggX9_days_X9_within
set_option maxRecDepth 20000 in
theorem ggX9_days_X1_passDays : GoodIn wsX9_days wsX1_passDays := goodIn_r _ [10, 11, 12, 13, 14, 15, 16, 9, 17, 18, 19, 20, 21, 22, 23, 24, 25, 26, 27, 28, 29, 30, 31, 32, 33, 34, 35, 36, 37, 38, 39, 40, 41, 42, 43, 44, 45, 46, 47, 48, 49, 50, 51, 52, 53, 54, 55, 56, 57, 58, 59, 60, 61, 62, 63, 64, 65, 77, 78, 79, 80, 81, 82, 83, 84, 85, 86, 87, 88, 89, 90] rfl (by decide +kernel)
set_option maxRecDepth 20000 in
theorem gX9_days_X1_passDays : GoodIn wsX9_days (wsV RX9 156 RX1 yX1_passDays wsX1_passDays) := goodIn_app (goodIn_of _ (by decide +kernel)) ggX9_days_X1_passDays
set_option maxRecDepth 20000 in
theorem dqX9_days_p220 : dz_rn 0 (cX9_days.data.toList.drop 0) [(0, 1), (0, 9), (2, 0), (3, 2), (4, 7), (0, 4), (3, 0), (3, 0), (0, 1), (0, 11), (4, 13), (4, 6), (2, 0), (0, 12)] = some [(0, .iload_n 1, 1), (1, .iconst 1, 1), (2, .bipush 60, 2), (4, .invokestatic 106, 3), (7, .ifCond .eq 18, 3), (10, .aload_n 0, 1), (11, .getfield 28, 3), (14, .getfield 153, 3), (17, .iload_n 1, 1), (18, .iadd, 1), (19, .sipush 400, 3), (22, .if_icmp .le 6, 3), (25, .bipush (-3), 2), (27, .ireturn, 1)] := by decide +kernel
theorem dX9_days_0 : decode cX9_days 0 = .ok (.iload_n 1, 1) := dz_at dqX9_days_p220 0 rfl
theorem dX9_days_1 : decode cX9_days 1 = .ok (.iconst 1, 1) := dz_at dqX9_days_p220 1 rfl
theorem dX9_days_2 : decode cX9_days 2 = .ok (.bipush 60, 2) := dz_at dqX9_days_p220 2 rfl
theorem dX9_days_4 : decode cX9_days 4 = .ok (.invokestatic 106, 3) := dz_at dqX9_days_p220 3 rfl
theorem dX9_days_7 : decode cX9_days 7 = .ok (.ifCond .eq 18, 3) := dz_at dqX9_days_p220 4 rfl
theorem dX9_days_10 : decode cX9_days 10 = .ok (.aload_n 0, 1) := dz_at dqX9_days_p220 5 rfl
theorem dX9_days_11 : decode cX9_days 11 = .ok (.getfield 28, 3) := dz_at dqX9_days_p220 6 rfl
theorem dX9_days_14 : decode cX9_days 14 = .ok (.getfield 153, 3) := dz_at dqX9_days_p220 7 rfl
theorem dX9_days_17 : decode cX9_days 17 = .ok (.iload_n 1, 1) := dz_at dqX9_days_p220 8 rfl
theorem dX9_days_18 : decode cX9_days 18 = .ok (.iadd, 1) := dz_at dqX9_days_p220 9 rfl
theorem dX9_days_19 : decode cX9_days 19 = .ok (.sipush 400, 3) := dz_at dqX9_days_p220 10 rfl
theorem dX9_days_22 : decode cX9_days 22 = .ok (.if_icmp .le 6, 3) := dz_at dqX9_days_p220 11 rfl
theorem dX9_days_25 : decode cX9_days 25 = .ok (.bipush (-3), 2) := dz_at dqX9_days_p220 12 rfl
theorem dX9_days_27 : decode cX9_days 27 = .ok (.ireturn, 1) := dz_at dqX9_days_p220 13 rfl
set_option maxRecDepth 20000 in
theorem dqX9_days_p221 : dz_rn 28 (cX9_days.data.toList.drop 28) [(0, 4), (3, 0), (0, 1), (3, 1), (0, 4), (3, 0), (3, 0), (0, 12)] = some [(28, .aload_n 0, 1), (29, .getfield 28, 3), (32, .iload_n 1, 1), (33, .invokevirtual 156, 3), (36, .aload_n 0, 1), (37, .getfield 28, 3), (40, .getfield 153, 3), (43, .ireturn, 1)] := by decide +kernel
theorem dX9_days_28 : decode cX9_days 28 = .ok (.aload_n 0, 1) := dz_at dqX9_days_p221 0 rfl
theorem dX9_days_29 : decode cX9_days 29 = .ok (.getfield 28, 3) := dz_at dqX9_days_p221 1 rfl
theorem dX9_days_32 : decode cX9_days 32 = .ok (.iload_n 1, 1) := dz_at dqX9_days_p221 2 rfl
theorem dX9_days_33 : decode cX9_days 33 = .ok (.invokevirtual 156, 3) := dz_at dqX9_days_p221 3 rfl
theorem dX9_days_36 : decode cX9_days 36 = .ok (.aload_n 0, 1) := dz_at dqX9_days_p221 4 rfl
theorem dX9_days_37 : decode cX9_days 37 = .ok (.getfield 28, 3) := dz_at dqX9_days_p221 5 rfl
theorem dX9_days_40 : decode cX9_days 40 = .ok (.getfield 153, 3) := dz_at dqX9_days_p221 6 rfl
theorem dX9_days_43 : decode cX9_days 43 = .ok (.ireturn, 1) := dz_at dqX9_days_p221 7 rfl
set_option maxRecDepth 20000 in
theorem ggX9_walk_X9_isRoom : GoodIn wsX9_walk wsX9_isRoom := goodIn_r _ [5, 6, 7, 4, 8] rfl (by decide +kernel)
set_option maxRecDepth 20000 in
theorem gX9_walk_X9_isRoom : GoodIn wsX9_walk (va_wsS RX9 83 yX9_isRoom wsX9_isRoom) := goodIn_app (goodIn_of _ (by decide +kernel)) ggX9_walk_X9_isRoom
set_option maxRecDepth 20000 in
theorem ggX9_walk_X1_walkPast : GoodIn wsX9_walk wsX1_walkPast := goodIn_r _ [13, 14, 15, 16, 17, 18, 19, 20, 12, 21, 22, 34, 35, 36, 37, 38, 39, 40, 41, 42, 43, 44, 45, 46] rfl (by decide +kernel)
set_option maxRecDepth 20000 in
theorem gX9_walk_X1_walkPast : GoodIn wsX9_walk (wsV RX9 159 RX1 yX1_walkPast wsX1_walkPast) := goodIn_app (goodIn_of _ (by decide +kernel)) ggX9_walk_X1_walkPast
set_option maxRecDepth 20000 in
theorem dqX9_walk_p220 : dz_rn 0 (cX9_walk.data.toList.drop 0) [(0, 1), (3, 2), (4, 7), (0, 4), (3, 0), (0, 1), (3, 1), (4, 0), (2, 0), (0, 12)] = some [(0, .iload_n 1, 1), (1, .invokestatic 83, 3), (4, .ifCond .eq 14, 3), (7, .aload_n 0, 1), (8, .getfield 28, 3), (11, .iload_n 1, 1), (12, .invokevirtual 159, 3), (15, .goto 5, 3), (18, .bipush (-2), 2), (20, .ireturn, 1)] := by decide +kernel
theorem dX9_walk_0 : decode cX9_walk 0 = .ok (.iload_n 1, 1) := dz_at dqX9_walk_p220 0 rfl
theorem dX9_walk_1 : decode cX9_walk 1 = .ok (.invokestatic 83, 3) := dz_at dqX9_walk_p220 1 rfl
theorem dX9_walk_4 : decode cX9_walk 4 = .ok (.ifCond .eq 14, 3) := dz_at dqX9_walk_p220 2 rfl
theorem dX9_walk_7 : decode cX9_walk 7 = .ok (.aload_n 0, 1) := dz_at dqX9_walk_p220 3 rfl
theorem dX9_walk_8 : decode cX9_walk 8 = .ok (.getfield 28, 3) := dz_at dqX9_walk_p220 4 rfl
theorem dX9_walk_11 : decode cX9_walk 11 = .ok (.iload_n 1, 1) := dz_at dqX9_walk_p220 5 rfl
theorem dX9_walk_12 : decode cX9_walk 12 = .ok (.invokevirtual 159, 3) := dz_at dqX9_walk_p220 6 rfl
theorem dX9_walk_15 : decode cX9_walk 15 = .ok (.goto 5, 3) := dz_at dqX9_walk_p220 7 rfl
theorem dX9_walk_18 : decode cX9_walk 18 = .ok (.bipush (-2), 2) := dz_at dqX9_walk_p220 8 rfl
theorem dX9_walk_20 : decode cX9_walk 20 = .ok (.ireturn, 1) := dz_at dqX9_walk_p220 9 rfl
set_option maxRecDepth 20000 in
theorem ggX9_write_X9_within : GoodIn wsX9_write wsX9_within := goodIn_r _ [5] rfl (by decide +kernel)
set_option maxRecDepth 20000 in
theorem gX9_write_X9_within : GoodIn wsX9_write (va_wsS RX9 106 yX9_within wsX9_within) := goodIn_app (goodIn_of _ (by decide +kernel)) ggX9_write_X9_within
set_option maxRecDepth 20000 in
theorem ggX9_write_X7_append : GoodIn wsX9_write wsX7_append := goodIn_r _ [10, 11, 12, 13, 25, 26, 27, 28] rfl (by decide +kernel)
set_option maxRecDepth 20000 in
theorem gX9_write_X7_append : GoodIn wsX9_write (wsV RX9 166 RX7 yX7_append wsX7_append) := goodIn_app (goodIn_of _ (by decide +kernel)) ggX9_write_X7_append
set_option maxRecDepth 20000 in
theorem dqX9_write_p220 : dz_rn 0 (cX9_write.data.toList.drop 0) [(0, 3), (0, 9), (2, 0), (3, 2), (4, 8), (2, 0), (0, 12), (0, 4), (3, 0), (3, 0), (0, 3), (0, 11), (4, 13), (4, 6)] = some [(0, .iload_n 3, 1), (1, .iconst 1, 1), (2, .bipush 8, 2), (4, .invokestatic 106, 3), (7, .ifCond .ne 6, 3), (10, .bipush (-3), 2), (12, .ireturn, 1), (13, .aload_n 0, 1), (14, .getfield 35, 3), (17, .getfield 163, 3), (20, .iload_n 3, 1), (21, .iadd, 1), (22, .sipush 160, 3), (25, .if_icmp .le 6, 3)] := by decide +kernel
theorem dX9_write_0 : decode cX9_write 0 = .ok (.iload_n 3, 1) := dz_at dqX9_write_p220 0 rfl
theorem dX9_write_1 : decode cX9_write 1 = .ok (.iconst 1, 1) := dz_at dqX9_write_p220 1 rfl
theorem dX9_write_2 : decode cX9_write 2 = .ok (.bipush 8, 2) := dz_at dqX9_write_p220 2 rfl
theorem dX9_write_4 : decode cX9_write 4 = .ok (.invokestatic 106, 3) := dz_at dqX9_write_p220 3 rfl
theorem dX9_write_7 : decode cX9_write 7 = .ok (.ifCond .ne 6, 3) := dz_at dqX9_write_p220 4 rfl
theorem dX9_write_10 : decode cX9_write 10 = .ok (.bipush (-3), 2) := dz_at dqX9_write_p220 5 rfl
theorem dX9_write_12 : decode cX9_write 12 = .ok (.ireturn, 1) := dz_at dqX9_write_p220 6 rfl
theorem dX9_write_13 : decode cX9_write 13 = .ok (.aload_n 0, 1) := dz_at dqX9_write_p220 7 rfl
theorem dX9_write_14 : decode cX9_write 14 = .ok (.getfield 35, 3) := dz_at dqX9_write_p220 8 rfl
theorem dX9_write_17 : decode cX9_write 17 = .ok (.getfield 163, 3) := dz_at dqX9_write_p220 9 rfl
theorem dX9_write_20 : decode cX9_write 20 = .ok (.iload_n 3, 1) := dz_at dqX9_write_p220 10 rfl
theorem dX9_write_21 : decode cX9_write 21 = .ok (.iadd, 1) := dz_at dqX9_write_p220 11 rfl
theorem dX9_write_22 : decode cX9_write 22 = .ok (.sipush 160, 3) := dz_at dqX9_write_p220 12 rfl
theorem dX9_write_25 : decode cX9_write 25 = .ok (.if_icmp .le 6, 3) := dz_at dqX9_write_p220 13 rfl
set_option maxRecDepth 20000 in
theorem dqX9_write_p221 : dz_rn 28 (cX9_write.data.toList.drop 28) [(2, 0), (0, 12), (0, 4), (3, 0), (0, 35), (0, 3), (3, 1), (0, 4), (3, 0), (3, 0), (0, 12)] = some [(28, .bipush (-5), 2), (30, .ireturn, 1), (31, .aload_n 0, 1), (32, .getfield 35, 3), (35, .lload_n 1, 1), (36, .iload_n 3, 1), (37, .invokevirtual 166, 3), (40, .aload_n 0, 1), (41, .getfield 35, 3), (44, .getfield 163, 3), (47, .ireturn, 1)] := by decide +kernel
theorem dX9_write_28 : decode cX9_write 28 = .ok (.bipush (-5), 2) := dz_at dqX9_write_p221 0 rfl
theorem dX9_write_30 : decode cX9_write 30 = .ok (.ireturn, 1) := dz_at dqX9_write_p221 1 rfl
theorem dX9_write_31 : decode cX9_write 31 = .ok (.aload_n 0, 1) := dz_at dqX9_write_p221 2 rfl
theorem dX9_write_32 : decode cX9_write 32 = .ok (.getfield 35, 3) := dz_at dqX9_write_p221 3 rfl
theorem dX9_write_35 : decode cX9_write 35 = .ok (.lload_n 1, 1) := dz_at dqX9_write_p221 4 rfl
theorem dX9_write_36 : decode cX9_write 36 = .ok (.iload_n 3, 1) := dz_at dqX9_write_p221 5 rfl
theorem dX9_write_37 : decode cX9_write 37 = .ok (.invokevirtual 166, 3) := dz_at dqX9_write_p221 6 rfl
theorem dX9_write_40 : decode cX9_write 40 = .ok (.aload_n 0, 1) := dz_at dqX9_write_p221 7 rfl
theorem dX9_write_41 : decode cX9_write 41 = .ok (.getfield 35, 3) := dz_at dqX9_write_p221 8 rfl
theorem dX9_write_44 : decode cX9_write 44 = .ok (.getfield 163, 3) := dz_at dqX9_write_p221 9 rfl
theorem dX9_write_47 : decode cX9_write 47 = .ok (.ireturn, 1) := dz_at dqX9_write_p221 10 rfl
set_option maxRecDepth 20000 in
theorem dqX9_erase_p220 : dz_rn 0 (cX9_erase.data.toList.drop 0) [(0, 4), (3, 0), (3, 0), (0, 19), (0, 4), (3, 0), (0, 8), (3, 3), (0, 1), (0, 12)] = some [(0, .aload_n 0, 1), (1, .getfield 35, 3), (4, .getfield 163, 3), (7, .istore_n 1, 1), (8, .aload_n 0, 1), (9, .getfield 35, 3), (12, .iconst 0, 1), (13, .putfield 163, 3), (16, .iload_n 1, 1), (17, .ireturn, 1)] := by decide +kernel
theorem dX9_erase_0 : decode cX9_erase 0 = .ok (.aload_n 0, 1) := dz_at dqX9_erase_p220 0 rfl
theorem dX9_erase_1 : decode cX9_erase 1 = .ok (.getfield 35, 3) := dz_at dqX9_erase_p220 1 rfl
theorem dX9_erase_4 : decode cX9_erase 4 = .ok (.getfield 163, 3) := dz_at dqX9_erase_p220 2 rfl
theorem dX9_erase_7 : decode cX9_erase 7 = .ok (.istore_n 1, 1) := dz_at dqX9_erase_p220 3 rfl
theorem dX9_erase_8 : decode cX9_erase 8 = .ok (.aload_n 0, 1) := dz_at dqX9_erase_p220 4 rfl
theorem dX9_erase_9 : decode cX9_erase 9 = .ok (.getfield 35, 3) := dz_at dqX9_erase_p220 5 rfl
theorem dX9_erase_12 : decode cX9_erase 12 = .ok (.iconst 0, 1) := dz_at dqX9_erase_p220 6 rfl
theorem dX9_erase_13 : decode cX9_erase 13 = .ok (.putfield 163, 3) := dz_at dqX9_erase_p220 7 rfl
theorem dX9_erase_16 : decode cX9_erase 16 = .ok (.iload_n 1, 1) := dz_at dqX9_erase_p220 8 rfl
theorem dX9_erase_17 : decode cX9_erase 17 = .ok (.ireturn, 1) := dz_at dqX9_erase_p220 9 rfl
set_option maxRecDepth 20000 in
theorem ggX9_fault_X7_readInto : GoodIn wsX9_fault wsX7_readInto := goodIn_r _ [7, 8, 9, 10, 11, 12, 13, 14, 15, 16, 17, 18, 19, 20, 21, 22, 23, 24, 25, 26, 27, 28, 6, 29, 30, 31, 32, 33, 34, 35, 36, 37, 38, 39, 40, 41, 42, 43, 44, 45, 46, 47, 48, 49, 50, 51, 52, 53, 54, 55, 56, 57, 58, 59, 60, 61, 62, 63, 64, 65, 66, 67, 68, 69, 70, 71, 72, 73, 74, 75, 76, 77, 78, 79, 80, 81, 82, 83, 84, 85, 86, 87, 88, 89, 90, 91, 92, 93, 94, 95, 96, 97, 98, 99, 100, 101, 102, 103, 104, 116, 117, 118, 119, 120, 121, 122, 123, 124] rfl (by decide +kernel)
set_option maxRecDepth 20000 in
theorem gX9_fault_X7_readInto : GoodIn wsX9_fault (wsV RX9 170 RX7 yX7_readInto wsX7_readInto) := goodIn_app (goodIn_of _ (by decide +kernel)) ggX9_fault_X7_readInto
set_option maxRecDepth 20000 in
theorem dqX9_fault_p220 : dz_rn 0 (cX9_fault.data.toList.drop 0) [(0, 4), (3, 0), (0, 4), (3, 0), (3, 1), (0, 12)] = some [(0, .aload_n 0, 1), (1, .getfield 35, 3), (4, .aload_n 0, 1), (5, .getfield 80, 3), (8, .invokevirtual 170, 3), (11, .ireturn, 1)] := by decide +kernel
theorem dX9_fault_0 : decode cX9_fault 0 = .ok (.aload_n 0, 1) := dz_at dqX9_fault_p220 0 rfl
theorem dX9_fault_1 : decode cX9_fault 1 = .ok (.getfield 35, 3) := dz_at dqX9_fault_p220 1 rfl
theorem dX9_fault_4 : decode cX9_fault 4 = .ok (.aload_n 0, 1) := dz_at dqX9_fault_p220 2 rfl
theorem dX9_fault_5 : decode cX9_fault 5 = .ok (.getfield 80, 3) := dz_at dqX9_fault_p220 3 rfl
theorem dX9_fault_8 : decode cX9_fault 8 = .ok (.invokevirtual 170, 3) := dz_at dqX9_fault_p220 4 rfl
theorem dX9_fault_11 : decode cX9_fault 11 = .ok (.ireturn, 1) := dz_at dqX9_fault_p220 5 rfl
set_option maxRecDepth 20000 in
theorem ggX9_rules_X7_readInto : GoodIn wsX9_rules wsX7_readInto := goodIn_r _ [8, 9, 10, 11, 12, 13, 14, 15, 16, 17, 18, 19, 20, 21, 22, 23, 24, 25, 26, 27, 28, 29, 7, 30, 31, 32, 33, 34, 35, 36, 37, 38, 39, 40, 41, 42, 43, 44, 45, 46, 47, 48, 49, 50, 51, 52, 53, 54, 55, 56, 57, 58, 59, 60, 61, 62, 63, 64, 65, 66, 67, 68, 69, 70, 71, 72, 73, 74, 75, 76, 77, 78, 79, 80, 81, 82, 83, 84, 85, 86, 87, 88, 89, 90, 91, 92, 93, 94, 95, 96, 97, 98, 99, 100, 101, 102, 103, 104, 105, 117, 118, 119, 120, 121, 122, 123, 124, 125] rfl (by decide +kernel)
set_option maxRecDepth 20000 in
theorem gX9_rules_X7_readInto : GoodIn wsX9_rules (wsV RX9 170 RX7 yX7_readInto wsX7_readInto) := goodIn_app (goodIn_of _ (by decide +kernel)) ggX9_rules_X7_readInto
set_option maxRecDepth 20000 in
theorem dqX9_rules_p220 : dz_rn 0 (cX9_rules.data.toList.drop 0) [(0, 4), (3, 0), (0, 4), (3, 0), (3, 1), (0, 13), (4, 1), (2, 0), (0, 12), (0, 4), (3, 0), (0, 48), (0, 4), (0, 4)] = some [(0, .aload_n 0, 1), (1, .getfield 35, 3), (4, .aload_n 0, 1), (5, .getfield 80, 3), (8, .invokevirtual 170, 3), (11, .iconst (-1), 1), (12, .if_icmp .eq 6, 3), (15, .bipush (-4), 2), (17, .ireturn, 1), (18, .aload_n 0, 1), (19, .getfield 80, 3), (22, .astore_n 1, 1), (23, .aload_n 0, 1), (24, .aload_n 0, 1)] := by decide +kernel
theorem dX9_rules_0 : decode cX9_rules 0 = .ok (.aload_n 0, 1) := dz_at dqX9_rules_p220 0 rfl
theorem dX9_rules_1 : decode cX9_rules 1 = .ok (.getfield 35, 3) := dz_at dqX9_rules_p220 1 rfl
theorem dX9_rules_4 : decode cX9_rules 4 = .ok (.aload_n 0, 1) := dz_at dqX9_rules_p220 2 rfl
theorem dX9_rules_5 : decode cX9_rules 5 = .ok (.getfield 80, 3) := dz_at dqX9_rules_p220 3 rfl
theorem dX9_rules_8 : decode cX9_rules 8 = .ok (.invokevirtual 170, 3) := dz_at dqX9_rules_p220 4 rfl
theorem dX9_rules_11 : decode cX9_rules 11 = .ok (.iconst (-1), 1) := dz_at dqX9_rules_p220 5 rfl
theorem dX9_rules_12 : decode cX9_rules 12 = .ok (.if_icmp .eq 6, 3) := dz_at dqX9_rules_p220 6 rfl
theorem dX9_rules_15 : decode cX9_rules 15 = .ok (.bipush (-4), 2) := dz_at dqX9_rules_p220 7 rfl
theorem dX9_rules_17 : decode cX9_rules 17 = .ok (.ireturn, 1) := dz_at dqX9_rules_p220 8 rfl
theorem dX9_rules_18 : decode cX9_rules 18 = .ok (.aload_n 0, 1) := dz_at dqX9_rules_p220 9 rfl
theorem dX9_rules_19 : decode cX9_rules 19 = .ok (.getfield 80, 3) := dz_at dqX9_rules_p220 10 rfl
theorem dX9_rules_22 : decode cX9_rules 22 = .ok (.astore_n 1, 1) := dz_at dqX9_rules_p220 11 rfl
theorem dX9_rules_23 : decode cX9_rules 23 = .ok (.aload_n 0, 1) := dz_at dqX9_rules_p220 12 rfl
theorem dX9_rules_24 : decode cX9_rules 24 = .ok (.aload_n 0, 1) := dz_at dqX9_rules_p220 13 rfl
set_option maxRecDepth 20000 in
theorem dqX9_rules_p221 : dz_rn 25 (cX9_rules.data.toList.drop 25) [(3, 0), (3, 3), (0, 4), (0, 5), (3, 3), (0, 4), (3, 0), (0, 8), (3, 3), (0, 4), (3, 0), (3, 0), (0, 12)] = some [(25, .getfield 76, 3), (28, .putfield 80, 3), (31, .aload_n 0, 1), (32, .aload_n 1, 1), (33, .putfield 76, 3), (36, .aload_n 0, 1), (37, .getfield 35, 3), (40, .iconst 0, 1), (41, .putfield 163, 3), (44, .aload_n 0, 1), (45, .getfield 76, 3), (48, .getfield 174, 3), (51, .ireturn, 1)] := by decide +kernel
theorem dX9_rules_25 : decode cX9_rules 25 = .ok (.getfield 76, 3) := dz_at dqX9_rules_p221 0 rfl
theorem dX9_rules_28 : decode cX9_rules 28 = .ok (.putfield 80, 3) := dz_at dqX9_rules_p221 1 rfl
theorem dX9_rules_31 : decode cX9_rules 31 = .ok (.aload_n 0, 1) := dz_at dqX9_rules_p221 2 rfl
theorem dX9_rules_32 : decode cX9_rules 32 = .ok (.aload_n 1, 1) := dz_at dqX9_rules_p221 3 rfl
theorem dX9_rules_33 : decode cX9_rules 33 = .ok (.putfield 76, 3) := dz_at dqX9_rules_p221 4 rfl
theorem dX9_rules_36 : decode cX9_rules 36 = .ok (.aload_n 0, 1) := dz_at dqX9_rules_p221 5 rfl
theorem dX9_rules_37 : decode cX9_rules 37 = .ok (.getfield 35, 3) := dz_at dqX9_rules_p221 6 rfl
theorem dX9_rules_40 : decode cX9_rules 40 = .ok (.iconst 0, 1) := dz_at dqX9_rules_p221 7 rfl
theorem dX9_rules_41 : decode cX9_rules 41 = .ok (.putfield 163, 3) := dz_at dqX9_rules_p221 8 rfl
theorem dX9_rules_44 : decode cX9_rules 44 = .ok (.aload_n 0, 1) := dz_at dqX9_rules_p221 9 rfl
theorem dX9_rules_45 : decode cX9_rules 45 = .ok (.getfield 76, 3) := dz_at dqX9_rules_p221 10 rfl
theorem dX9_rules_48 : decode cX9_rules 48 = .ok (.getfield 174, 3) := dz_at dqX9_rules_p221 11 rfl
theorem dX9_rules_51 : decode cX9_rules 51 = .ok (.ireturn, 1) := dz_at dqX9_rules_p221 12 rfl
set_option maxRecDepth 20000 in
theorem ggX9_bars_X9_isThing : GoodIn wsX9_bars wsX9_isThing := goodIn_r _ [4, 5, 6, 3, 7] rfl (by decide +kernel)
set_option maxRecDepth 20000 in
theorem gX9_bars_X9_isThing : GoodIn wsX9_bars (va_wsS RX9 103 yX9_isThing wsX9_isThing) := goodIn_app (goodIn_of _ (by decide +kernel)) ggX9_bars_X9_isThing
set_option maxRecDepth 20000 in
theorem ggX9_bars_X9_isCorner : GoodIn wsX9_bars wsX9_isCorner := goodIn_r _ [10, 5, 6, 3, 7] rfl (by decide +kernel)
set_option maxRecDepth 20000 in
theorem gX9_bars_X9_isCorner : GoodIn wsX9_bars (va_wsS RX9 125 yX9_isCorner wsX9_isCorner) := goodIn_app (goodIn_of _ (by decide +kernel)) ggX9_bars_X9_isCorner
set_option maxRecDepth 20000 in
theorem ggX9_bars_X9_barredByRoom : GoodIn wsX9_bars wsX9_barredByRoom := goodIn_r _ [14, 15, 16, 17, 18, 19, 20, 21, 22, 49, 50, 51, 52, 53, 54, 55, 56, 57, 58, 59, 60, 61, 62, 63, 64, 65, 66, 67, 68, 69, 70, 71, 72, 73, 74, 75, 76, 77] rfl (by decide +kernel)
set_option maxRecDepth 20000 in
theorem gX9_bars_X9_barredByRoom : GoodIn wsX9_bars (wsV RX9 177 RX9 yX9_barredByRoom wsX9_barredByRoom) := goodIn_app (goodIn_of _ (by decide +kernel)) ggX9_bars_X9_barredByRoom
set_option maxRecDepth 20000 in
theorem ggX9_bars_X9_barredByAgain : GoodIn wsX9_bars wsX9_barredByAgain := goodIn_r _ [26, 16, 15, 49, 50, 51, 52, 53, 54, 55, 56, 57, 58, 59, 65, 66, 67, 68, 69, 70, 71, 72, 73, 74, 75, 76, 77, 60, 61, 62, 63, 64] rfl (by decide +kernel)
set_option maxRecDepth 20000 in
theorem gX9_bars_X9_barredByAgain : GoodIn wsX9_bars (wsV RX9 180 RX9 yX9_barredByAgain wsX9_barredByAgain) := goodIn_app (goodIn_of _ (by decide +kernel)) ggX9_bars_X9_barredByAgain
set_option maxRecDepth 20000 in
theorem ggX9_bars_X9_barredByApart : GoodIn wsX9_bars wsX9_barredByApart := goodIn_r _ [30, 15, 16, 31, 32, 33, 3, 34, 35, 36, 37, 38, 39, 40, 41, 42, 43, 44, 45, 46, 47, 48, 49, 50, 51, 52, 53, 54, 55, 56, 57, 58, 59, 60, 61, 62, 63, 64, 65, 66, 67, 68, 69, 70, 71, 72, 73, 74, 75, 76, 77, 78] rfl (by decide +kernel)
set_option maxRecDepth 20000 in
theorem gX9_bars_X9_barredByApart : GoodIn wsX9_bars (wsV RX9 183 RX9 yX9_barredByApart wsX9_barredByApart) := goodIn_app (goodIn_of _ (by decide +kernel)) ggX9_bars_X9_barredByApart
set_option maxRecDepth 20000 in
theorem dqX9_bars_p220 : dz_rn 0 (cX9_bars.data.toList.drop 0) [(0, 1), (3, 2), (4, 7), (0, 2), (3, 2), (4, 8), (2, 0), (0, 12), (0, 8), (0, 21), (0, 4), (0, 2), (3, 1), (4, 7)] = some [(0, .iload_n 1, 1), (1, .invokestatic 103, 3), (4, .ifCond .eq 10, 3), (7, .iload_n 2, 1), (8, .invokestatic 125, 3), (11, .ifCond .ne 6, 3), (14, .bipush (-2), 2), (16, .ireturn, 1), (17, .iconst 0, 1), (18, .istore_n 3, 1), (19, .aload_n 0, 1), (20, .iload_n 2, 1), (21, .invokevirtual 177, 3), (24, .ifCond .eq 6, 3)] := by decide +kernel
theorem dX9_bars_0 : decode cX9_bars 0 = .ok (.iload_n 1, 1) := dz_at dqX9_bars_p220 0 rfl
theorem dX9_bars_1 : decode cX9_bars 1 = .ok (.invokestatic 103, 3) := dz_at dqX9_bars_p220 1 rfl
theorem dX9_bars_4 : decode cX9_bars 4 = .ok (.ifCond .eq 10, 3) := dz_at dqX9_bars_p220 2 rfl
theorem dX9_bars_7 : decode cX9_bars 7 = .ok (.iload_n 2, 1) := dz_at dqX9_bars_p220 3 rfl
theorem dX9_bars_8 : decode cX9_bars 8 = .ok (.invokestatic 125, 3) := dz_at dqX9_bars_p220 4 rfl
theorem dX9_bars_11 : decode cX9_bars 11 = .ok (.ifCond .ne 6, 3) := dz_at dqX9_bars_p220 5 rfl
theorem dX9_bars_14 : decode cX9_bars 14 = .ok (.bipush (-2), 2) := dz_at dqX9_bars_p220 6 rfl
theorem dX9_bars_16 : decode cX9_bars 16 = .ok (.ireturn, 1) := dz_at dqX9_bars_p220 7 rfl
theorem dX9_bars_17 : decode cX9_bars 17 = .ok (.iconst 0, 1) := dz_at dqX9_bars_p220 8 rfl
theorem dX9_bars_18 : decode cX9_bars 18 = .ok (.istore_n 3, 1) := dz_at dqX9_bars_p220 9 rfl
theorem dX9_bars_19 : decode cX9_bars 19 = .ok (.aload_n 0, 1) := dz_at dqX9_bars_p220 10 rfl
theorem dX9_bars_20 : decode cX9_bars 20 = .ok (.iload_n 2, 1) := dz_at dqX9_bars_p220 11 rfl
theorem dX9_bars_21 : decode cX9_bars 21 = .ok (.invokevirtual 177, 3) := dz_at dqX9_bars_p220 12 rfl
theorem dX9_bars_24 : decode cX9_bars 24 = .ok (.ifCond .eq 6, 3) := dz_at dqX9_bars_p220 13 rfl
set_option maxRecDepth 20000 in
theorem dqX9_bars_p221 : dz_rn 27 (cX9_bars.data.toList.drop 27) [(5, 0), (0, 4), (0, 2), (3, 1), (4, 7), (5, 0), (0, 4), (0, 1), (0, 2), (3, 1), (4, 7), (5, 0), (0, 3), (0, 12)] = some [(27, .iinc 3 1, 3), (30, .aload_n 0, 1), (31, .iload_n 2, 1), (32, .invokevirtual 180, 3), (35, .ifCond .eq 6, 3), (38, .iinc 3 2, 3), (41, .aload_n 0, 1), (42, .iload_n 1, 1), (43, .iload_n 2, 1), (44, .invokevirtual 183, 3), (47, .ifCond .eq 6, 3), (50, .iinc 3 4, 3), (53, .iload_n 3, 1), (54, .ireturn, 1)] := by decide +kernel
theorem dX9_bars_27 : decode cX9_bars 27 = .ok (.iinc 3 1, 3) := dz_at dqX9_bars_p221 0 rfl
theorem dX9_bars_30 : decode cX9_bars 30 = .ok (.aload_n 0, 1) := dz_at dqX9_bars_p221 1 rfl
theorem dX9_bars_31 : decode cX9_bars 31 = .ok (.iload_n 2, 1) := dz_at dqX9_bars_p221 2 rfl
theorem dX9_bars_32 : decode cX9_bars 32 = .ok (.invokevirtual 180, 3) := dz_at dqX9_bars_p221 3 rfl
theorem dX9_bars_35 : decode cX9_bars 35 = .ok (.ifCond .eq 6, 3) := dz_at dqX9_bars_p221 4 rfl
theorem dX9_bars_38 : decode cX9_bars 38 = .ok (.iinc 3 2, 3) := dz_at dqX9_bars_p221 5 rfl
theorem dX9_bars_41 : decode cX9_bars 41 = .ok (.aload_n 0, 1) := dz_at dqX9_bars_p221 6 rfl
theorem dX9_bars_42 : decode cX9_bars 42 = .ok (.iload_n 1, 1) := dz_at dqX9_bars_p221 7 rfl
theorem dX9_bars_43 : decode cX9_bars 43 = .ok (.iload_n 2, 1) := dz_at dqX9_bars_p221 8 rfl
theorem dX9_bars_44 : decode cX9_bars 44 = .ok (.invokevirtual 183, 3) := dz_at dqX9_bars_p221 9 rfl
theorem dX9_bars_47 : decode cX9_bars 47 = .ok (.ifCond .eq 6, 3) := dz_at dqX9_bars_p221 10 rfl
theorem dX9_bars_50 : decode cX9_bars 50 = .ok (.iinc 3 4, 3) := dz_at dqX9_bars_p221 11 rfl
theorem dX9_bars_53 : decode cX9_bars 53 = .ok (.iload_n 3, 1) := dz_at dqX9_bars_p221 12 rfl
theorem dX9_bars_54 : decode cX9_bars 54 = .ok (.ireturn, 1) := dz_at dqX9_bars_p221 13 rfl
set_option maxRecDepth 20000 in
theorem ggX9_due_X9_isDue : GoodIn wsX9_due wsX9_isDue := goodIn_r _ [5, 6, 7, 8, 9, 10, 11, 12, 13, 14, 15, 16, 17, 18, 19, 20, 21, 22, 23, 24, 25, 26, 27, 28, 29, 30, 31, 32, 33, 34, 35, 36] rfl (by decide +kernel)
set_option maxRecDepth 20000 in
theorem gX9_due_X9_isDue : GoodIn wsX9_due (wsV RX9 186 RX9 yX9_isDue wsX9_isDue) := goodIn_app (goodIn_of _ (by decide +kernel)) ggX9_due_X9_isDue
set_option maxRecDepth 20000 in
theorem dqX9_due_p220 : dz_rn 0 (cX9_due.data.toList.drop 0) [(0, 8), (0, 19), (0, 8), (0, 20), (0, 2), (2, 0), (4, 4), (0, 4), (0, 2), (3, 1), (4, 7), (0, 1), (0, 9), (0, 2)] = some [(0, .iconst 0, 1), (1, .istore_n 1, 1), (2, .iconst 0, 1), (3, .istore_n 2, 1), (4, .iload_n 2, 1), (5, .bipush 8, 2), (7, .if_icmp .ge 23, 3), (10, .aload_n 0, 1), (11, .iload_n 2, 1), (12, .invokevirtual 186, 3), (15, .ifCond .eq 9, 3), (18, .iload_n 1, 1), (19, .iconst 1, 1), (20, .iload_n 2, 1)] := by decide +kernel
theorem dX9_due_0 : decode cX9_due 0 = .ok (.iconst 0, 1) := dz_at dqX9_due_p220 0 rfl
theorem dX9_due_1 : decode cX9_due 1 = .ok (.istore_n 1, 1) := dz_at dqX9_due_p220 1 rfl
theorem dX9_due_2 : decode cX9_due 2 = .ok (.iconst 0, 1) := dz_at dqX9_due_p220 2 rfl
theorem dX9_due_3 : decode cX9_due 3 = .ok (.istore_n 2, 1) := dz_at dqX9_due_p220 3 rfl
theorem dX9_due_4 : decode cX9_due 4 = .ok (.iload_n 2, 1) := dz_at dqX9_due_p220 4 rfl
theorem dX9_due_5 : decode cX9_due 5 = .ok (.bipush 8, 2) := dz_at dqX9_due_p220 5 rfl
theorem dX9_due_7 : decode cX9_due 7 = .ok (.if_icmp .ge 23, 3) := dz_at dqX9_due_p220 6 rfl
theorem dX9_due_10 : decode cX9_due 10 = .ok (.aload_n 0, 1) := dz_at dqX9_due_p220 7 rfl
theorem dX9_due_11 : decode cX9_due 11 = .ok (.iload_n 2, 1) := dz_at dqX9_due_p220 8 rfl
theorem dX9_due_12 : decode cX9_due 12 = .ok (.invokevirtual 186, 3) := dz_at dqX9_due_p220 9 rfl
theorem dX9_due_15 : decode cX9_due 15 = .ok (.ifCond .eq 9, 3) := dz_at dqX9_due_p220 10 rfl
theorem dX9_due_18 : decode cX9_due 18 = .ok (.iload_n 1, 1) := dz_at dqX9_due_p220 11 rfl
theorem dX9_due_19 : decode cX9_due 19 = .ok (.iconst 1, 1) := dz_at dqX9_due_p220 12 rfl
theorem dX9_due_20 : decode cX9_due 20 = .ok (.iload_n 2, 1) := dz_at dqX9_due_p220 13 rfl
set_option maxRecDepth 20000 in
theorem dqX9_due_p221 : dz_rn 21 (cX9_due.data.toList.drop 21) [(0, 31), (0, 39), (0, 19), (5, 0), (4, 0), (0, 1), (0, 12)] = some [(21, .ishl, 1), (22, .ior, 1), (23, .istore_n 1, 1), (24, .iinc 2 1, 3), (27, .goto (-23), 3), (30, .iload_n 1, 1), (31, .ireturn, 1)] := by decide +kernel
theorem dX9_due_21 : decode cX9_due 21 = .ok (.ishl, 1) := dz_at dqX9_due_p221 0 rfl
theorem dX9_due_22 : decode cX9_due 22 = .ok (.ior, 1) := dz_at dqX9_due_p221 1 rfl
theorem dX9_due_23 : decode cX9_due 23 = .ok (.istore_n 1, 1) := dz_at dqX9_due_p221 2 rfl
theorem dX9_due_24 : decode cX9_due 24 = .ok (.iinc 2 1, 3) := dz_at dqX9_due_p221 3 rfl
theorem dX9_due_27 : decode cX9_due 27 = .ok (.goto (-23), 3) := dz_at dqX9_due_p221 4 rfl
theorem dX9_due_30 : decode cX9_due 30 = .ok (.iload_n 1, 1) := dz_at dqX9_due_p221 5 rfl
theorem dX9_due_31 : decode cX9_due 31 = .ok (.ireturn, 1) := dz_at dqX9_due_p221 6 rfl
set_option maxRecDepth 20000 in
theorem ggX9_laid_X9_rowRefusal : GoodIn wsX9_laid wsX9_rowRefusal := goodIn_r _ [7, 8, 9, 10, 11, 2, 12, 13, 6, 14, 15, 16, 17, 18, 19, 20, 21, 73, 74, 75, 76, 77, 78, 79, 80, 81, 82, 83] rfl (by decide +kernel)
set_option maxRecDepth 20000 in
theorem gX9_laid_X9_rowRefusal : GoodIn wsX9_laid (wsV RX9 189 RX9 yX9_rowRefusal wsX9_rowRefusal) := goodIn_app (goodIn_of _ (by decide +kernel)) ggX9_laid_X9_rowRefusal
set_option maxRecDepth 20000 in
theorem ggX9_laid_X6_layOut : GoodIn wsX9_laid wsX6_layOut := goodIn_r _ [26, 27, 28, 29, 25, 30, 31, 32, 33, 34, 35, 36, 37, 38, 39, 40, 41, 42, 43, 44, 45, 46, 47, 48, 49, 50, 51, 52, 53, 54, 55, 56, 57, 58, 59, 60, 61, 62, 63, 64, 65, 66, 67, 68, 69, 70, 71, 72, 84, 85, 86, 87, 88, 89] rfl (by decide +kernel)
set_option maxRecDepth 20000 in
theorem gX9_laid_X6_layOut : GoodIn wsX9_laid (wsV RX9 193 RX6 yX6_layOut wsX6_layOut) := goodIn_app (goodIn_of _ (by decide +kernel)) ggX9_laid_X6_layOut
set_option maxRecDepth 20000 in
theorem dqX9_laid_p220 : dz_rn 0 (cX9_laid.data.toList.drop 0) [(0, 4), (0, 35), (0, 3), (1, 0), (0, 9), (2, 0), (3, 1), (1, 1), (1, 0), (4, 7), (1, 0), (0, 12), (1, 0), (0, 3)] = some [(0, .aload_n 0, 1), (1, .lload_n 1, 1), (2, .iload_n 3, 1), (3, .iload 4, 2), (5, .iconst 1, 1), (6, .bipush 8, 2), (8, .invokevirtual 189, 3), (11, .istore 5, 2), (13, .iload 5, 2), (15, .ifCond .eq 6, 3), (18, .iload 5, 2), (20, .ireturn, 1), (21, .iload 4, 2), (23, .iload_n 3, 1)] := by decide +kernel
theorem dX9_laid_0 : decode cX9_laid 0 = .ok (.aload_n 0, 1) := dz_at dqX9_laid_p220 0 rfl
theorem dX9_laid_1 : decode cX9_laid 1 = .ok (.lload_n 1, 1) := dz_at dqX9_laid_p220 1 rfl
theorem dX9_laid_2 : decode cX9_laid 2 = .ok (.iload_n 3, 1) := dz_at dqX9_laid_p220 2 rfl
theorem dX9_laid_3 : decode cX9_laid 3 = .ok (.iload 4, 2) := dz_at dqX9_laid_p220 3 rfl
theorem dX9_laid_5 : decode cX9_laid 5 = .ok (.iconst 1, 1) := dz_at dqX9_laid_p220 4 rfl
theorem dX9_laid_6 : decode cX9_laid 6 = .ok (.bipush 8, 2) := dz_at dqX9_laid_p220 5 rfl
theorem dX9_laid_8 : decode cX9_laid 8 = .ok (.invokevirtual 189, 3) := dz_at dqX9_laid_p220 6 rfl
theorem dX9_laid_11 : decode cX9_laid 11 = .ok (.istore 5, 2) := dz_at dqX9_laid_p220 7 rfl
theorem dX9_laid_13 : decode cX9_laid 13 = .ok (.iload 5, 2) := dz_at dqX9_laid_p220 8 rfl
theorem dX9_laid_15 : decode cX9_laid 15 = .ok (.ifCond .eq 6, 3) := dz_at dqX9_laid_p220 9 rfl
theorem dX9_laid_18 : decode cX9_laid 18 = .ok (.iload 5, 2) := dz_at dqX9_laid_p220 10 rfl
theorem dX9_laid_20 : decode cX9_laid 20 = .ok (.ireturn, 1) := dz_at dqX9_laid_p220 11 rfl
theorem dX9_laid_21 : decode cX9_laid 21 = .ok (.iload 4, 2) := dz_at dqX9_laid_p220 12 rfl
theorem dX9_laid_23 : decode cX9_laid 23 = .ok (.iload_n 3, 1) := dz_at dqX9_laid_p220 13 rfl
set_option maxRecDepth 20000 in
theorem dqX9_laid_p221 : dz_rn 24 (cX9_laid.data.toList.drop 24) [(4, 3), (0, 13), (0, 12), (0, 4), (3, 0), (0, 4), (3, 0), (0, 3), (3, 1), (1, 1), (1, 0), (4, 10), (1, 0), (4, 0)] = some [(24, .if_icmp .lt 5, 3), (27, .iconst (-1), 1), (28, .ireturn, 1), (29, .aload_n 0, 1), (30, .getfield 51, 3), (33, .aload_n 0, 1), (34, .getfield 69, 3), (37, .iload_n 3, 1), (38, .invokevirtual 193, 3), (41, .istore 6, 2), (43, .iload 4, 2), (45, .ifCond .ge 8, 3), (48, .iload 6, 2), (50, .goto 13, 3)] := by decide +kernel
theorem dX9_laid_24 : decode cX9_laid 24 = .ok (.if_icmp .lt 5, 3) := dz_at dqX9_laid_p221 0 rfl
theorem dX9_laid_27 : decode cX9_laid 27 = .ok (.iconst (-1), 1) := dz_at dqX9_laid_p221 1 rfl
theorem dX9_laid_28 : decode cX9_laid 28 = .ok (.ireturn, 1) := dz_at dqX9_laid_p221 2 rfl
theorem dX9_laid_29 : decode cX9_laid 29 = .ok (.aload_n 0, 1) := dz_at dqX9_laid_p221 3 rfl
theorem dX9_laid_30 : decode cX9_laid 30 = .ok (.getfield 51, 3) := dz_at dqX9_laid_p221 4 rfl
theorem dX9_laid_33 : decode cX9_laid 33 = .ok (.aload_n 0, 1) := dz_at dqX9_laid_p221 5 rfl
theorem dX9_laid_34 : decode cX9_laid 34 = .ok (.getfield 69, 3) := dz_at dqX9_laid_p221 6 rfl
theorem dX9_laid_37 : decode cX9_laid 37 = .ok (.iload_n 3, 1) := dz_at dqX9_laid_p221 7 rfl
theorem dX9_laid_38 : decode cX9_laid 38 = .ok (.invokevirtual 193, 3) := dz_at dqX9_laid_p221 8 rfl
theorem dX9_laid_41 : decode cX9_laid 41 = .ok (.istore 6, 2) := dz_at dqX9_laid_p221 9 rfl
theorem dX9_laid_43 : decode cX9_laid 43 = .ok (.iload 4, 2) := dz_at dqX9_laid_p221 10 rfl
theorem dX9_laid_45 : decode cX9_laid 45 = .ok (.ifCond .ge 8, 3) := dz_at dqX9_laid_p221 11 rfl
theorem dX9_laid_48 : decode cX9_laid 48 = .ok (.iload 6, 2) := dz_at dqX9_laid_p221 12 rfl
theorem dX9_laid_50 : decode cX9_laid 50 = .ok (.goto 13, 3) := dz_at dqX9_laid_p221 13 rfl
set_option maxRecDepth 20000 in
theorem dqX9_laid_p222 : dz_rn 53 (cX9_laid.data.toList.drop 53) [(0, 4), (3, 0), (3, 0), (1, 0), (0, 10), (0, 12)] = some [(53, .aload_n 0, 1), (54, .getfield 51, 3), (57, .getfield 197, 3), (60, .iload 4, 2), (62, .iaload, 1), (63, .ireturn, 1)] := by decide +kernel
theorem dX9_laid_53 : decode cX9_laid 53 = .ok (.aload_n 0, 1) := dz_at dqX9_laid_p222 0 rfl
theorem dX9_laid_54 : decode cX9_laid 54 = .ok (.getfield 51, 3) := dz_at dqX9_laid_p222 1 rfl
theorem dX9_laid_57 : decode cX9_laid 57 = .ok (.getfield 197, 3) := dz_at dqX9_laid_p222 2 rfl
theorem dX9_laid_60 : decode cX9_laid 60 = .ok (.iload 4, 2) := dz_at dqX9_laid_p222 3 rfl
theorem dX9_laid_62 : decode cX9_laid 62 = .ok (.iaload, 1) := dz_at dqX9_laid_p222 4 rfl
theorem dX9_laid_63 : decode cX9_laid 63 = .ok (.ireturn, 1) := dz_at dqX9_laid_p222 5 rfl
set_option maxRecDepth 20000 in
theorem ggX9_cost_X9_isRoom : GoodIn wsX9_cost wsX9_isRoom := goodIn_r _ [5, 6, 7, 4, 8] rfl (by decide +kernel)
set_option maxRecDepth 20000 in
theorem gX9_cost_X9_isRoom : GoodIn wsX9_cost (va_wsS RX9 83 yX9_isRoom wsX9_isRoom) := goodIn_app (goodIn_of _ (by decide +kernel)) ggX9_cost_X9_isRoom
set_option maxRecDepth 20000 in
theorem ggX9_cost_X3_costOf : GoodIn wsX9_cost wsX3_costOf := goodIn_r _ [13, 14, 15, 16, 17, 18, 19, 20, 21, 22, 23, 24, 25, 26, 27, 39, 40, 41, 42, 43, 44, 45, 46, 47, 48, 49, 50, 51, 52, 53, 54, 55, 56, 57, 58, 59, 60, 61, 62] rfl (by decide +kernel)
set_option maxRecDepth 20000 in
theorem gX9_cost_X3_costOf : GoodIn wsX9_cost (wsV RX9 200 RX3 yX3_costOf wsX3_costOf) := goodIn_app (goodIn_of _ (by decide +kernel)) ggX9_cost_X3_costOf
set_option maxRecDepth 20000 in
theorem dqX9_cost_p220 : dz_rn 0 (cX9_cost.data.toList.drop 0) [(0, 1), (3, 2), (4, 7), (0, 4), (3, 0), (0, 1), (3, 1), (4, 0), (2, 0), (0, 12)] = some [(0, .iload_n 1, 1), (1, .invokestatic 83, 3), (4, .ifCond .eq 14, 3), (7, .aload_n 0, 1), (8, .getfield 44, 3), (11, .iload_n 1, 1), (12, .invokevirtual 200, 3), (15, .goto 5, 3), (18, .bipush (-2), 2), (20, .ireturn, 1)] := by decide +kernel
theorem dX9_cost_0 : decode cX9_cost 0 = .ok (.iload_n 1, 1) := dz_at dqX9_cost_p220 0 rfl
theorem dX9_cost_1 : decode cX9_cost 1 = .ok (.invokestatic 83, 3) := dz_at dqX9_cost_p220 1 rfl
theorem dX9_cost_4 : decode cX9_cost 4 = .ok (.ifCond .eq 14, 3) := dz_at dqX9_cost_p220 2 rfl
theorem dX9_cost_7 : decode cX9_cost 7 = .ok (.aload_n 0, 1) := dz_at dqX9_cost_p220 3 rfl
theorem dX9_cost_8 : decode cX9_cost 8 = .ok (.getfield 44, 3) := dz_at dqX9_cost_p220 4 rfl
theorem dX9_cost_11 : decode cX9_cost 11 = .ok (.iload_n 1, 1) := dz_at dqX9_cost_p220 5 rfl
theorem dX9_cost_12 : decode cX9_cost 12 = .ok (.invokevirtual 200, 3) := dz_at dqX9_cost_p220 6 rfl
theorem dX9_cost_15 : decode cX9_cost 15 = .ok (.goto 5, 3) := dz_at dqX9_cost_p220 7 rfl
theorem dX9_cost_18 : decode cX9_cost 18 = .ok (.bipush (-2), 2) := dz_at dqX9_cost_p220 8 rfl
theorem dX9_cost_20 : decode cX9_cost 20 = .ok (.ireturn, 1) := dz_at dqX9_cost_p220 9 rfl
set_option maxRecDepth 20000 in
theorem ggX9_plan_X9_within : GoodIn wsX9_plan wsX9_within := goodIn_r _ [5] rfl (by decide +kernel)
set_option maxRecDepth 20000 in
theorem gX9_plan_X9_within : GoodIn wsX9_plan (va_wsS RX9 106 yX9_within wsX9_within) := goodIn_app (goodIn_of _ (by decide +kernel)) ggX9_plan_X9_within
set_option maxRecDepth 20000 in
theorem ggX9_plan_X3_takeMinutes : GoodIn wsX9_plan wsX3_takeMinutes := goodIn_r _ [10, 11, 122, 123, 124, 125, 126, 127, 128, 129, 130] rfl (by decide +kernel)
set_option maxRecDepth 20000 in
theorem gX9_plan_X3_takeMinutes : GoodIn wsX9_plan (wsV RX9 203 RX3 yX3_takeMinutes wsX3_takeMinutes) := goodIn_app (goodIn_of _ (by decide +kernel)) ggX9_plan_X3_takeMinutes
set_option maxRecDepth 20000 in
theorem ggX9_plan_X3_findBest : GoodIn wsX9_plan wsX3_findBest := goodIn_r _ [15, 16, 17, 18, 19, 20, 9, 21, 22, 23, 24, 25, 26, 27, 28, 29, 30, 31, 32, 33, 34, 35, 36, 37, 38, 39, 40, 41, 42, 43, 44, 45, 46, 47, 48, 49, 50, 51, 52, 53, 54, 55, 56, 57, 58, 59, 60, 61, 62, 63, 64, 65, 66, 67, 68, 69, 70, 71, 72, 73, 74, 75, 76, 77, 78, 79, 80, 81, 82, 83, 84, 85, 86, 87, 88, 89, 90, 91, 92, 93, 94, 95, 96, 97, 98, 99, 100, 101, 102, 103, 104, 105, 106, 107, 108, 109, 110, 11, 122, 123, 124, 125, 126, 127, 128, 129, 130, 131, 132, 133, 134, 135, 136, 137, 138, 139, 140, 141, 142, 143, 144, 145, 146] rfl (by decide +kernel)
set_option maxRecDepth 20000 in
theorem gX9_plan_X3_findBest : GoodIn wsX9_plan (wsV RX9 206 RX3 yX3_findBest wsX3_findBest) := goodIn_app (goodIn_of _ (by decide +kernel)) ggX9_plan_X3_findBest
set_option maxRecDepth 20000 in
theorem dqX9_plan_p220 : dz_rn 0 (cX9_plan.data.toList.drop 0) [(0, 1), (0, 9), (0, 16), (3, 2), (4, 7), (0, 3), (0, 13), (0, 1), (0, 9), (0, 26), (3, 2), (4, 7), (0, 4), (3, 0)] = some [(0, .iload_n 1, 1), (1, .iconst 1, 1), (2, .iconst 4, 1), (3, .invokestatic 106, 3), (6, .ifCond .eq 26, 3), (9, .iload_n 3, 1), (10, .iconst (-1), 1), (11, .iload_n 1, 1), (12, .iconst 1, 1), (13, .isub, 1), (14, .invokestatic 106, 3), (17, .ifCond .eq 15, 3), (20, .aload_n 0, 1), (21, .getfield 44, 3)] := by decide +kernel
theorem dX9_plan_0 : decode cX9_plan 0 = .ok (.iload_n 1, 1) := dz_at dqX9_plan_p220 0 rfl
theorem dX9_plan_1 : decode cX9_plan 1 = .ok (.iconst 1, 1) := dz_at dqX9_plan_p220 1 rfl
theorem dX9_plan_2 : decode cX9_plan 2 = .ok (.iconst 4, 1) := dz_at dqX9_plan_p220 2 rfl
theorem dX9_plan_3 : decode cX9_plan 3 = .ok (.invokestatic 106, 3) := dz_at dqX9_plan_p220 3 rfl
theorem dX9_plan_6 : decode cX9_plan 6 = .ok (.ifCond .eq 26, 3) := dz_at dqX9_plan_p220 4 rfl
theorem dX9_plan_9 : decode cX9_plan 9 = .ok (.iload_n 3, 1) := dz_at dqX9_plan_p220 5 rfl
theorem dX9_plan_10 : decode cX9_plan 10 = .ok (.iconst (-1), 1) := dz_at dqX9_plan_p220 6 rfl
theorem dX9_plan_11 : decode cX9_plan 11 = .ok (.iload_n 1, 1) := dz_at dqX9_plan_p220 7 rfl
theorem dX9_plan_12 : decode cX9_plan 12 = .ok (.iconst 1, 1) := dz_at dqX9_plan_p220 8 rfl
theorem dX9_plan_13 : decode cX9_plan 13 = .ok (.isub, 1) := dz_at dqX9_plan_p220 9 rfl
theorem dX9_plan_14 : decode cX9_plan 14 = .ok (.invokestatic 106, 3) := dz_at dqX9_plan_p220 10 rfl
theorem dX9_plan_17 : decode cX9_plan 17 = .ok (.ifCond .eq 15, 3) := dz_at dqX9_plan_p220 11 rfl
theorem dX9_plan_20 : decode cX9_plan 20 = .ok (.aload_n 0, 1) := dz_at dqX9_plan_p220 12 rfl
theorem dX9_plan_21 : decode cX9_plan 21 = .ok (.getfield 44, 3) := dz_at dqX9_plan_p220 13 rfl
set_option maxRecDepth 20000 in
theorem dqX9_plan_p221 : dz_rn 24 (cX9_plan.data.toList.drop 24) [(0, 2), (0, 1), (3, 1), (4, 8), (2, 0), (0, 12), (0, 4), (3, 0), (0, 1), (3, 1), (0, 3), (4, 10), (0, 4), (3, 0)] = some [(24, .iload_n 2, 1), (25, .iload_n 1, 1), (26, .invokevirtual 203, 3), (29, .ifCond .ne 6, 3), (32, .bipush (-3), 2), (34, .ireturn, 1), (35, .aload_n 0, 1), (36, .getfield 44, 3), (39, .iload_n 1, 1), (40, .invokevirtual 206, 3), (43, .iload_n 3, 1), (44, .ifCond .ge 13, 3), (47, .aload_n 0, 1), (48, .getfield 44, 3)] := by decide +kernel
theorem dX9_plan_24 : decode cX9_plan 24 = .ok (.iload_n 2, 1) := dz_at dqX9_plan_p221 0 rfl
theorem dX9_plan_25 : decode cX9_plan 25 = .ok (.iload_n 1, 1) := dz_at dqX9_plan_p221 1 rfl
theorem dX9_plan_26 : decode cX9_plan 26 = .ok (.invokevirtual 203, 3) := dz_at dqX9_plan_p221 2 rfl
theorem dX9_plan_29 : decode cX9_plan 29 = .ok (.ifCond .ne 6, 3) := dz_at dqX9_plan_p221 3 rfl
theorem dX9_plan_32 : decode cX9_plan 32 = .ok (.bipush (-3), 2) := dz_at dqX9_plan_p221 4 rfl
theorem dX9_plan_34 : decode cX9_plan 34 = .ok (.ireturn, 1) := dz_at dqX9_plan_p221 5 rfl
theorem dX9_plan_35 : decode cX9_plan 35 = .ok (.aload_n 0, 1) := dz_at dqX9_plan_p221 6 rfl
theorem dX9_plan_36 : decode cX9_plan 36 = .ok (.getfield 44, 3) := dz_at dqX9_plan_p221 7 rfl
theorem dX9_plan_39 : decode cX9_plan 39 = .ok (.iload_n 1, 1) := dz_at dqX9_plan_p221 8 rfl
theorem dX9_plan_40 : decode cX9_plan 40 = .ok (.invokevirtual 206, 3) := dz_at dqX9_plan_p221 9 rfl
theorem dX9_plan_43 : decode cX9_plan 43 = .ok (.iload_n 3, 1) := dz_at dqX9_plan_p221 10 rfl
theorem dX9_plan_44 : decode cX9_plan 44 = .ok (.ifCond .ge 13, 3) := dz_at dqX9_plan_p221 11 rfl
theorem dX9_plan_47 : decode cX9_plan 47 = .ok (.aload_n 0, 1) := dz_at dqX9_plan_p221 12 rfl
theorem dX9_plan_48 : decode cX9_plan 48 = .ok (.getfield 44, 3) := dz_at dqX9_plan_p221 13 rfl
set_option maxRecDepth 20000 in
theorem dqX9_plan_p222 : dz_rn 51 (cX9_plan.data.toList.drop 51) [(3, 0), (4, 0), (0, 4), (3, 0), (3, 0), (0, 3), (0, 10), (0, 12)] = some [(51, .getfield 209, 3), (54, .goto 12, 3), (57, .aload_n 0, 1), (58, .getfield 44, 3), (61, .getfield 212, 3), (64, .iload_n 3, 1), (65, .iaload, 1), (66, .ireturn, 1)] := by decide +kernel
theorem dX9_plan_51 : decode cX9_plan 51 = .ok (.getfield 209, 3) := dz_at dqX9_plan_p222 0 rfl
theorem dX9_plan_54 : decode cX9_plan 54 = .ok (.goto 12, 3) := dz_at dqX9_plan_p222 1 rfl
theorem dX9_plan_57 : decode cX9_plan 57 = .ok (.aload_n 0, 1) := dz_at dqX9_plan_p222 2 rfl
theorem dX9_plan_58 : decode cX9_plan 58 = .ok (.getfield 44, 3) := dz_at dqX9_plan_p222 3 rfl
theorem dX9_plan_61 : decode cX9_plan 61 = .ok (.getfield 212, 3) := dz_at dqX9_plan_p222 4 rfl
theorem dX9_plan_64 : decode cX9_plan 64 = .ok (.iload_n 3, 1) := dz_at dqX9_plan_p222 5 rfl
theorem dX9_plan_65 : decode cX9_plan 65 = .ok (.iaload, 1) := dz_at dqX9_plan_p222 6 rfl
theorem dX9_plan_66 : decode cX9_plan 66 = .ok (.ireturn, 1) := dz_at dqX9_plan_p222 7 rfl
set_option maxRecDepth 20000 in
theorem ggX9_judge_X9_within : GoodIn wsX9_judge wsX9_within := goodIn_r _ [5] rfl (by decide +kernel)
set_option maxRecDepth 20000 in
theorem gX9_judge_X9_within : GoodIn wsX9_judge (va_wsS RX9 106 yX9_within wsX9_within) := goodIn_app (goodIn_of _ (by decide +kernel)) ggX9_judge_X9_within
set_option maxRecDepth 20000 in
theorem ggX9_judge_X3_takeRooms : GoodIn wsX9_judge wsX3_takeRooms := goodIn_r _ [10, 11, 113, 114, 115, 116, 117, 118, 119, 120, 121] rfl (by decide +kernel)
set_option maxRecDepth 20000 in
theorem gX9_judge_X3_takeRooms : GoodIn wsX9_judge (wsV RX9 215 RX3 yX3_takeRooms wsX3_takeRooms) := goodIn_app (goodIn_of _ (by decide +kernel)) ggX9_judge_X3_takeRooms
set_option maxRecDepth 20000 in
theorem ggX9_judge_X3_takeMinutes : GoodIn wsX9_judge wsX3_takeMinutes := goodIn_r _ [15, 16, 113, 114, 115, 116, 117, 118, 119, 120, 121] rfl (by decide +kernel)
set_option maxRecDepth 20000 in
theorem gX9_judge_X3_takeMinutes : GoodIn wsX9_judge (wsV RX9 203 RX3 yX3_takeMinutes wsX3_takeMinutes) := goodIn_app (goodIn_of _ (by decide +kernel)) ggX9_judge_X3_takeMinutes
set_option maxRecDepth 20000 in
theorem ggX9_judge_X3_strengthBehindTrial : GoodIn wsX9_judge wsX3_strengthBehindTrial := goodIn_r _ [20, 11, 21, 22, 23, 24, 9, 25, 26, 27, 28, 29, 30, 31, 32, 33, 34, 35, 36, 37, 38, 39, 40, 41, 42, 43, 44, 45, 46, 47, 48, 49, 50, 51, 52, 53, 54, 55, 56, 57, 58, 59, 60, 61, 62, 63, 64, 65, 66, 67, 68, 69, 70, 71, 72, 73, 4, 74, 2, 3, 5, 75, 76, 77, 78, 16, 79, 80, 81, 82, 83, 84, 85, 86, 87, 88, 89, 90, 91, 92, 93, 94, 95, 96, 97, 98, 99, 100, 101, 113, 114, 115, 116, 117, 118, 119, 120, 121, 122, 123, 124, 125, 126, 127, 128, 129, 130, 131, 132, 133, 134, 135, 136, 137] rfl (by decide +kernel)
set_option maxRecDepth 20000 in
theorem gX9_judge_X3_strengthBehindTrial : GoodIn wsX9_judge (wsV RX9 218 RX3 yX3_strengthBehindTrial wsX3_strengthBehindTrial) := goodIn_app (goodIn_of _ (by decide +kernel)) ggX9_judge_X3_strengthBehindTrial
set_option maxRecDepth 20000 in
theorem dqX9_judge_p220 : dz_rn 0 (cX9_judge.data.toList.drop 0) [(0, 2), (0, 9), (0, 16), (3, 2), (4, 7), (0, 4), (3, 0), (0, 1), (0, 2), (3, 1), (4, 7), (0, 4), (3, 0), (0, 3)] = some [(0, .iload_n 2, 1), (1, .iconst 1, 1), (2, .iconst 4, 1), (3, .invokestatic 106, 3), (6, .ifCond .eq 27, 3), (9, .aload_n 0, 1), (10, .getfield 44, 3), (13, .iload_n 1, 1), (14, .iload_n 2, 1), (15, .invokevirtual 215, 3), (18, .ifCond .eq 15, 3), (21, .aload_n 0, 1), (22, .getfield 44, 3), (25, .iload_n 3, 1)] := by decide +kernel
theorem dX9_judge_0 : decode cX9_judge 0 = .ok (.iload_n 2, 1) := dz_at dqX9_judge_p220 0 rfl
theorem dX9_judge_1 : decode cX9_judge 1 = .ok (.iconst 1, 1) := dz_at dqX9_judge_p220 1 rfl
theorem dX9_judge_2 : decode cX9_judge 2 = .ok (.iconst 4, 1) := dz_at dqX9_judge_p220 2 rfl
theorem dX9_judge_3 : decode cX9_judge 3 = .ok (.invokestatic 106, 3) := dz_at dqX9_judge_p220 3 rfl
theorem dX9_judge_6 : decode cX9_judge 6 = .ok (.ifCond .eq 27, 3) := dz_at dqX9_judge_p220 4 rfl
theorem dX9_judge_9 : decode cX9_judge 9 = .ok (.aload_n 0, 1) := dz_at dqX9_judge_p220 5 rfl
theorem dX9_judge_10 : decode cX9_judge 10 = .ok (.getfield 44, 3) := dz_at dqX9_judge_p220 6 rfl
theorem dX9_judge_13 : decode cX9_judge 13 = .ok (.iload_n 1, 1) := dz_at dqX9_judge_p220 7 rfl
theorem dX9_judge_14 : decode cX9_judge 14 = .ok (.iload_n 2, 1) := dz_at dqX9_judge_p220 8 rfl
theorem dX9_judge_15 : decode cX9_judge 15 = .ok (.invokevirtual 215, 3) := dz_at dqX9_judge_p220 9 rfl
theorem dX9_judge_18 : decode cX9_judge 18 = .ok (.ifCond .eq 15, 3) := dz_at dqX9_judge_p220 10 rfl
theorem dX9_judge_21 : decode cX9_judge 21 = .ok (.aload_n 0, 1) := dz_at dqX9_judge_p220 11 rfl
theorem dX9_judge_22 : decode cX9_judge 22 = .ok (.getfield 44, 3) := dz_at dqX9_judge_p220 12 rfl
theorem dX9_judge_25 : decode cX9_judge 25 = .ok (.iload_n 3, 1) := dz_at dqX9_judge_p220 13 rfl
set_option maxRecDepth 20000 in
theorem dqX9_judge_p221 : dz_rn 26 (cX9_judge.data.toList.drop 26) [(0, 2), (3, 1), (4, 8), (2, 0), (0, 12), (0, 4), (3, 0), (0, 2), (3, 1), (0, 12)] = some [(26, .iload_n 2, 1), (27, .invokevirtual 203, 3), (30, .ifCond .ne 6, 3), (33, .bipush (-3), 2), (35, .ireturn, 1), (36, .aload_n 0, 1), (37, .getfield 44, 3), (40, .iload_n 2, 1), (41, .invokevirtual 218, 3), (44, .ireturn, 1)] := by decide +kernel
theorem dX9_judge_26 : decode cX9_judge 26 = .ok (.iload_n 2, 1) := dz_at dqX9_judge_p221 0 rfl
theorem dX9_judge_27 : decode cX9_judge 27 = .ok (.invokevirtual 203, 3) := dz_at dqX9_judge_p221 1 rfl
theorem dX9_judge_30 : decode cX9_judge 30 = .ok (.ifCond .ne 6, 3) := dz_at dqX9_judge_p221 2 rfl
theorem dX9_judge_33 : decode cX9_judge 33 = .ok (.bipush (-3), 2) := dz_at dqX9_judge_p221 3 rfl
theorem dX9_judge_35 : decode cX9_judge 35 = .ok (.ireturn, 1) := dz_at dqX9_judge_p221 4 rfl
theorem dX9_judge_36 : decode cX9_judge 36 = .ok (.aload_n 0, 1) := dz_at dqX9_judge_p221 5 rfl
theorem dX9_judge_37 : decode cX9_judge 37 = .ok (.getfield 44, 3) := dz_at dqX9_judge_p221 6 rfl
theorem dX9_judge_40 : decode cX9_judge 40 = .ok (.iload_n 2, 1) := dz_at dqX9_judge_p221 7 rfl
theorem dX9_judge_41 : decode cX9_judge 41 = .ok (.invokevirtual 218, 3) := dz_at dqX9_judge_p221 8 rfl
theorem dX9_judge_44 : decode cX9_judge 44 = .ok (.ireturn, 1) := dz_at dqX9_judge_p221 9 rfl
set_option maxRecDepth 20000 in
theorem ggX9_right_X9_isCorner : GoodIn wsX9_right wsX9_isCorner := goodIn_r _ [5, 6, 7, 4, 8] rfl (by decide +kernel)
set_option maxRecDepth 20000 in
theorem gX9_right_X9_isCorner : GoodIn wsX9_right (va_wsS RX9 125 yX9_isCorner wsX9_isCorner) := goodIn_app (goodIn_of _ (by decide +kernel)) ggX9_right_X9_isCorner
set_option maxRecDepth 20000 in
theorem ggX9_right_X9_within : GoodIn wsX9_right wsX9_within := goodIn_r _ [8] rfl (by decide +kernel)
set_option maxRecDepth 20000 in
theorem gX9_right_X9_within : GoodIn wsX9_right (va_wsS RX9 106 yX9_within wsX9_within) := goodIn_app (goodIn_of _ (by decide +kernel)) ggX9_right_X9_within
set_option maxRecDepth 20000 in
theorem ggX9_right_X1_strengthAgainst : GoodIn wsX9_right wsX1_strengthAgainst := goodIn_r _ [13, 14, 15, 16, 17, 18, 19, 12, 20, 21, 22, 23, 24, 25, 26, 27, 28, 29, 30, 31, 32, 33, 34, 35, 36, 37, 38, 39, 40, 62, 63, 64, 65, 66, 67, 68, 69, 70, 71, 72, 73, 74, 75] rfl (by decide +kernel)
set_option maxRecDepth 20000 in
theorem gX9_right_X1_strengthAgainst : GoodIn wsX9_right (wsV RX9 221 RX1 yX1_strengthAgainst wsX1_strengthAgainst) := goodIn_app (goodIn_of _ (by decide +kernel)) ggX9_right_X1_strengthAgainst
set_option maxRecDepth 20000 in
theorem ggX9_right_X9_commonDivisor : GoodIn wsX9_right wsX9_commonDivisor := goodIn_r _ [43, 44, 45, 46, 47, 48, 49, 50] rfl (by decide +kernel)
set_option maxRecDepth 20000 in
theorem gX9_right_X9_commonDivisor : GoodIn wsX9_right (va_wsS RX9 224 yX9_commonDivisor wsX9_commonDivisor) := goodIn_app (goodIn_of _ (by decide +kernel)) ggX9_right_X9_commonDivisor
set_option maxRecDepth 20000 in
theorem dqX9_right_p220 : dz_rn 0 (cX9_right.data.toList.drop 0) [(0, 1), (3, 2), (4, 8), (2, 0), (0, 12), (0, 2), (0, 8), (0, 9), (3, 2), (4, 8), (2, 0), (0, 12), (0, 4), (3, 0)] = some [(0, .iload_n 1, 1), (1, .invokestatic 125, 3), (4, .ifCond .ne 6, 3), (7, .bipush (-2), 2), (9, .ireturn, 1), (10, .iload_n 2, 1), (11, .iconst 0, 1), (12, .iconst 1, 1), (13, .invokestatic 106, 3), (16, .ifCond .ne 6, 3), (19, .bipush (-3), 2), (21, .ireturn, 1), (22, .aload_n 0, 1), (23, .getfield 28, 3)] := by decide +kernel
theorem dX9_right_0 : decode cX9_right 0 = .ok (.iload_n 1, 1) := dz_at dqX9_right_p220 0 rfl
theorem dX9_right_1 : decode cX9_right 1 = .ok (.invokestatic 125, 3) := dz_at dqX9_right_p220 1 rfl
theorem dX9_right_4 : decode cX9_right 4 = .ok (.ifCond .ne 6, 3) := dz_at dqX9_right_p220 2 rfl
theorem dX9_right_7 : decode cX9_right 7 = .ok (.bipush (-2), 2) := dz_at dqX9_right_p220 3 rfl
theorem dX9_right_9 : decode cX9_right 9 = .ok (.ireturn, 1) := dz_at dqX9_right_p220 4 rfl
theorem dX9_right_10 : decode cX9_right 10 = .ok (.iload_n 2, 1) := dz_at dqX9_right_p220 5 rfl
theorem dX9_right_11 : decode cX9_right 11 = .ok (.iconst 0, 1) := dz_at dqX9_right_p220 6 rfl
theorem dX9_right_12 : decode cX9_right 12 = .ok (.iconst 1, 1) := dz_at dqX9_right_p220 7 rfl
theorem dX9_right_13 : decode cX9_right 13 = .ok (.invokestatic 106, 3) := dz_at dqX9_right_p220 8 rfl
theorem dX9_right_16 : decode cX9_right 16 = .ok (.ifCond .ne 6, 3) := dz_at dqX9_right_p220 9 rfl
theorem dX9_right_19 : decode cX9_right 19 = .ok (.bipush (-3), 2) := dz_at dqX9_right_p220 10 rfl
theorem dX9_right_21 : decode cX9_right 21 = .ok (.ireturn, 1) := dz_at dqX9_right_p220 11 rfl
theorem dX9_right_22 : decode cX9_right 22 = .ok (.aload_n 0, 1) := dz_at dqX9_right_p220 12 rfl
theorem dX9_right_23 : decode cX9_right 23 = .ok (.getfield 28, 3) := dz_at dqX9_right_p220 13 rfl
set_option maxRecDepth 20000 in
theorem dqX9_right_p221 : dz_rn 26 (cX9_right.data.toList.drop 26) [(3, 0), (0, 1), (0, 10), (0, 13), (4, 2), (2, 0), (0, 12), (0, 4), (3, 0), (3, 0), (0, 1), (0, 10), (0, 21), (0, 3)] = some [(26, .getfield 131, 3), (29, .iload_n 1, 1), (30, .iaload, 1), (31, .iconst (-1), 1), (32, .if_icmp .ne 6, 3), (35, .bipush (-4), 2), (37, .ireturn, 1), (38, .aload_n 0, 1), (39, .getfield 28, 3), (42, .getfield 141, 3), (45, .iload_n 1, 1), (46, .iaload, 1), (47, .istore_n 3, 1), (48, .iload_n 3, 1)] := by decide +kernel
theorem dX9_right_26 : decode cX9_right 26 = .ok (.getfield 131, 3) := dz_at dqX9_right_p221 0 rfl
theorem dX9_right_29 : decode cX9_right 29 = .ok (.iload_n 1, 1) := dz_at dqX9_right_p221 1 rfl
theorem dX9_right_30 : decode cX9_right 30 = .ok (.iaload, 1) := dz_at dqX9_right_p221 2 rfl
theorem dX9_right_31 : decode cX9_right 31 = .ok (.iconst (-1), 1) := dz_at dqX9_right_p221 3 rfl
theorem dX9_right_32 : decode cX9_right 32 = .ok (.if_icmp .ne 6, 3) := dz_at dqX9_right_p221 4 rfl
theorem dX9_right_35 : decode cX9_right 35 = .ok (.bipush (-4), 2) := dz_at dqX9_right_p221 5 rfl
theorem dX9_right_37 : decode cX9_right 37 = .ok (.ireturn, 1) := dz_at dqX9_right_p221 6 rfl
theorem dX9_right_38 : decode cX9_right 38 = .ok (.aload_n 0, 1) := dz_at dqX9_right_p221 7 rfl
theorem dX9_right_39 : decode cX9_right 39 = .ok (.getfield 28, 3) := dz_at dqX9_right_p221 8 rfl
theorem dX9_right_42 : decode cX9_right 42 = .ok (.getfield 141, 3) := dz_at dqX9_right_p221 9 rfl
theorem dX9_right_45 : decode cX9_right 45 = .ok (.iload_n 1, 1) := dz_at dqX9_right_p221 10 rfl
theorem dX9_right_46 : decode cX9_right 46 = .ok (.iaload, 1) := dz_at dqX9_right_p221 11 rfl
theorem dX9_right_47 : decode cX9_right 47 = .ok (.istore_n 3, 1) := dz_at dqX9_right_p221 12 rfl
theorem dX9_right_48 : decode cX9_right 48 = .ok (.iload_n 3, 1) := dz_at dqX9_right_p221 13 rfl
set_option maxRecDepth 20000 in
theorem dqX9_right_p222 : dz_rn 49 (cX9_right.data.toList.drop 49) [(0, 4), (3, 0), (0, 1), (3, 1), (0, 11), (1, 1), (0, 3), (1, 0), (3, 2), (1, 1), (1, 0), (4, 11), (2, 0), (0, 12)] = some [(49, .aload_n 0, 1), (50, .getfield 28, 3), (53, .iload_n 1, 1), (54, .invokevirtual 221, 3), (57, .iadd, 1), (58, .istore 4, 2), (60, .iload_n 3, 1), (61, .iload 4, 2), (63, .invokestatic 224, 3), (66, .istore 5, 2), (68, .iload 5, 2), (70, .ifCond .gt 6, 3), (73, .bipush (-4), 2), (75, .ireturn, 1)] := by decide +kernel
theorem dX9_right_49 : decode cX9_right 49 = .ok (.aload_n 0, 1) := dz_at dqX9_right_p222 0 rfl
theorem dX9_right_50 : decode cX9_right 50 = .ok (.getfield 28, 3) := dz_at dqX9_right_p222 1 rfl
theorem dX9_right_53 : decode cX9_right 53 = .ok (.iload_n 1, 1) := dz_at dqX9_right_p222 2 rfl
theorem dX9_right_54 : decode cX9_right 54 = .ok (.invokevirtual 221, 3) := dz_at dqX9_right_p222 3 rfl
theorem dX9_right_57 : decode cX9_right 57 = .ok (.iadd, 1) := dz_at dqX9_right_p222 4 rfl
theorem dX9_right_58 : decode cX9_right 58 = .ok (.istore 4, 2) := dz_at dqX9_right_p222 5 rfl
theorem dX9_right_60 : decode cX9_right 60 = .ok (.iload_n 3, 1) := dz_at dqX9_right_p222 6 rfl
theorem dX9_right_61 : decode cX9_right 61 = .ok (.iload 4, 2) := dz_at dqX9_right_p222 7 rfl
theorem dX9_right_63 : decode cX9_right 63 = .ok (.invokestatic 224, 3) := dz_at dqX9_right_p222 8 rfl
theorem dX9_right_66 : decode cX9_right 66 = .ok (.istore 5, 2) := dz_at dqX9_right_p222 9 rfl
theorem dX9_right_68 : decode cX9_right 68 = .ok (.iload 5, 2) := dz_at dqX9_right_p222 10 rfl
theorem dX9_right_70 : decode cX9_right 70 = .ok (.ifCond .gt 6, 3) := dz_at dqX9_right_p222 11 rfl
theorem dX9_right_73 : decode cX9_right 73 = .ok (.bipush (-4), 2) := dz_at dqX9_right_p222 12 rfl
theorem dX9_right_75 : decode cX9_right 75 = .ok (.ireturn, 1) := dz_at dqX9_right_p222 13 rfl
set_option maxRecDepth 20000 in
theorem dqX9_right_p223 : dz_rn 76 (cX9_right.data.toList.drop 76) [(0, 2), (4, 8), (0, 3), (4, 0), (1, 0), (1, 0), (0, 27), (0, 12)] = some [(76, .iload_n 2, 1), (77, .ifCond .ne 7, 3), (80, .iload_n 3, 1), (81, .goto 5, 3), (84, .iload 4, 2), (86, .iload 5, 2), (88, .idiv, 1), (89, .ireturn, 1)] := by decide +kernel
theorem dX9_right_76 : decode cX9_right 76 = .ok (.iload_n 2, 1) := dz_at dqX9_right_p223 0 rfl
theorem dX9_right_77 : decode cX9_right 77 = .ok (.ifCond .ne 7, 3) := dz_at dqX9_right_p223 1 rfl
theorem dX9_right_80 : decode cX9_right 80 = .ok (.iload_n 3, 1) := dz_at dqX9_right_p223 2 rfl
theorem dX9_right_81 : decode cX9_right 81 = .ok (.goto 5, 3) := dz_at dqX9_right_p223 3 rfl
theorem dX9_right_84 : decode cX9_right 84 = .ok (.iload 4, 2) := dz_at dqX9_right_p223 4 rfl
theorem dX9_right_86 : decode cX9_right 86 = .ok (.iload 5, 2) := dz_at dqX9_right_p223 5 rfl
theorem dX9_right_88 : decode cX9_right 88 = .ok (.idiv, 1) := dz_at dqX9_right_p223 6 rfl
theorem dX9_right_89 : decode cX9_right 89 = .ok (.ireturn, 1) := dz_at dqX9_right_p223 7 rfl
set_option maxRecDepth 20000 in
theorem ggX9_causes_X9_isCorner : GoodIn wsX9_causes wsX9_isCorner := goodIn_r _ [5, 6, 7, 4, 8] rfl (by decide +kernel)
set_option maxRecDepth 20000 in
theorem gX9_causes_X9_isCorner : GoodIn wsX9_causes (va_wsS RX9 125 yX9_isCorner wsX9_isCorner) := goodIn_app (goodIn_of _ (by decide +kernel)) ggX9_causes_X9_isCorner
set_option maxRecDepth 20000 in
theorem ggX9_causes_X9_isThing : GoodIn wsX9_causes wsX9_isThing := goodIn_r _ [11, 6, 7, 4, 8] rfl (by decide +kernel)
set_option maxRecDepth 20000 in
theorem gX9_causes_X9_isThing : GoodIn wsX9_causes (va_wsS RX9 103 yX9_isThing wsX9_isThing) := goodIn_app (goodIn_of _ (by decide +kernel)) ggX9_causes_X9_isThing
set_option maxRecDepth 20000 in
theorem ggX9_causes_X1_muchAlike : GoodIn wsX9_causes wsX1_muchAlike := goodIn_r _ [16, 17, 18, 19, 20, 21, 22, 23, 24, 25, 26, 27, 28, 29, 30, 31, 58, 59, 60, 61, 62, 63, 64, 65, 66, 67, 68, 69, 70, 71] rfl (by decide +kernel)
set_option maxRecDepth 20000 in
theorem gX9_causes_X1_muchAlike : GoodIn wsX9_causes (wsV RX9 227 RX1 yX1_muchAlike wsX1_muchAlike) := goodIn_app (goodIn_of _ (by decide +kernel)) ggX9_causes_X1_muchAlike
set_option maxRecDepth 20000 in
theorem ggX9_causes_X9_standsThroughDoor : GoodIn wsX9_causes wsX9_standsThroughDoor := goodIn_r _ [35, 1, 36, 37, 38, 39, 40, 41, 42, 43, 44, 45, 46, 47, 48, 49, 50, 51, 52, 53, 54, 55, 56, 57, 58, 59, 60, 61, 62, 63, 64, 65, 66, 67, 68, 69, 70, 72, 73] rfl (by decide +kernel)
set_option maxRecDepth 20000 in
theorem gX9_causes_X9_standsThroughDoor : GoodIn wsX9_causes (wsV RX9 230 RX9 yX9_standsThroughDoor wsX9_standsThroughDoor) := goodIn_app (goodIn_of _ (by decide +kernel)) ggX9_causes_X9_standsThroughDoor
set_option maxRecDepth 20000 in
theorem dqX9_causes_p220 : dz_rn 0 (cX9_causes.data.toList.drop 0) [(0, 1), (3, 2), (4, 7), (0, 2), (3, 2), (4, 8), (2, 0), (0, 12), (0, 4), (3, 0), (3, 0), (0, 1), (0, 10), (0, 21)] = some [(0, .iload_n 1, 1), (1, .invokestatic 125, 3), (4, .ifCond .eq 10, 3), (7, .iload_n 2, 1), (8, .invokestatic 103, 3), (11, .ifCond .ne 6, 3), (14, .bipush (-2), 2), (16, .ireturn, 1), (17, .aload_n 0, 1), (18, .getfield 28, 3), (21, .getfield 131, 3), (24, .iload_n 1, 1), (25, .iaload, 1), (26, .istore_n 3, 1)] := by decide +kernel
theorem dX9_causes_0 : decode cX9_causes 0 = .ok (.iload_n 1, 1) := dz_at dqX9_causes_p220 0 rfl
theorem dX9_causes_1 : decode cX9_causes 1 = .ok (.invokestatic 125, 3) := dz_at dqX9_causes_p220 1 rfl
theorem dX9_causes_4 : decode cX9_causes 4 = .ok (.ifCond .eq 10, 3) := dz_at dqX9_causes_p220 2 rfl
theorem dX9_causes_7 : decode cX9_causes 7 = .ok (.iload_n 2, 1) := dz_at dqX9_causes_p220 3 rfl
theorem dX9_causes_8 : decode cX9_causes 8 = .ok (.invokestatic 103, 3) := dz_at dqX9_causes_p220 4 rfl
theorem dX9_causes_11 : decode cX9_causes 11 = .ok (.ifCond .ne 6, 3) := dz_at dqX9_causes_p220 5 rfl
theorem dX9_causes_14 : decode cX9_causes 14 = .ok (.bipush (-2), 2) := dz_at dqX9_causes_p220 6 rfl
theorem dX9_causes_16 : decode cX9_causes 16 = .ok (.ireturn, 1) := dz_at dqX9_causes_p220 7 rfl
theorem dX9_causes_17 : decode cX9_causes 17 = .ok (.aload_n 0, 1) := dz_at dqX9_causes_p220 8 rfl
theorem dX9_causes_18 : decode cX9_causes 18 = .ok (.getfield 28, 3) := dz_at dqX9_causes_p220 9 rfl
theorem dX9_causes_21 : decode cX9_causes 21 = .ok (.getfield 131, 3) := dz_at dqX9_causes_p220 10 rfl
theorem dX9_causes_24 : decode cX9_causes 24 = .ok (.iload_n 1, 1) := dz_at dqX9_causes_p220 11 rfl
theorem dX9_causes_25 : decode cX9_causes 25 = .ok (.iaload, 1) := dz_at dqX9_causes_p220 12 rfl
theorem dX9_causes_26 : decode cX9_causes 26 = .ok (.istore_n 3, 1) := dz_at dqX9_causes_p220 13 rfl
set_option maxRecDepth 20000 in
theorem dqX9_causes_p221 : dz_rn 27 (cX9_causes.data.toList.drop 27) [(0, 3), (0, 13), (4, 1), (0, 3), (0, 2), (4, 2), (2, 0), (0, 12), (0, 8), (1, 1), (0, 4), (3, 0), (0, 3), (0, 2)] = some [(27, .iload_n 3, 1), (28, .iconst (-1), 1), (29, .if_icmp .eq 8, 3), (32, .iload_n 3, 1), (33, .iload_n 2, 1), (34, .if_icmp .ne 6, 3), (37, .bipush (-4), 2), (39, .ireturn, 1), (40, .iconst 0, 1), (41, .istore 4, 2), (43, .aload_n 0, 1), (44, .getfield 28, 3), (47, .iload_n 3, 1), (48, .iload_n 2, 1)] := by decide +kernel
theorem dX9_causes_27 : decode cX9_causes 27 = .ok (.iload_n 3, 1) := dz_at dqX9_causes_p221 0 rfl
theorem dX9_causes_28 : decode cX9_causes 28 = .ok (.iconst (-1), 1) := dz_at dqX9_causes_p221 1 rfl
theorem dX9_causes_29 : decode cX9_causes 29 = .ok (.if_icmp .eq 8, 3) := dz_at dqX9_causes_p221 2 rfl
theorem dX9_causes_32 : decode cX9_causes 32 = .ok (.iload_n 3, 1) := dz_at dqX9_causes_p221 3 rfl
theorem dX9_causes_33 : decode cX9_causes 33 = .ok (.iload_n 2, 1) := dz_at dqX9_causes_p221 4 rfl
theorem dX9_causes_34 : decode cX9_causes 34 = .ok (.if_icmp .ne 6, 3) := dz_at dqX9_causes_p221 5 rfl
theorem dX9_causes_37 : decode cX9_causes 37 = .ok (.bipush (-4), 2) := dz_at dqX9_causes_p221 6 rfl
theorem dX9_causes_39 : decode cX9_causes 39 = .ok (.ireturn, 1) := dz_at dqX9_causes_p221 7 rfl
theorem dX9_causes_40 : decode cX9_causes 40 = .ok (.iconst 0, 1) := dz_at dqX9_causes_p221 8 rfl
theorem dX9_causes_41 : decode cX9_causes 41 = .ok (.istore 4, 2) := dz_at dqX9_causes_p221 9 rfl
theorem dX9_causes_43 : decode cX9_causes 43 = .ok (.aload_n 0, 1) := dz_at dqX9_causes_p221 10 rfl
theorem dX9_causes_44 : decode cX9_causes 44 = .ok (.getfield 28, 3) := dz_at dqX9_causes_p221 11 rfl
theorem dX9_causes_47 : decode cX9_causes 47 = .ok (.iload_n 3, 1) := dz_at dqX9_causes_p221 12 rfl
theorem dX9_causes_48 : decode cX9_causes 48 = .ok (.iload_n 2, 1) := dz_at dqX9_causes_p221 13 rfl
set_option maxRecDepth 20000 in
theorem dqX9_causes_p222 : dz_rn 49 (cX9_causes.data.toList.drop 49) [(3, 1), (4, 7), (5, 0), (0, 4), (3, 0), (3, 0), (0, 1), (0, 10), (0, 2), (4, 2), (5, 0), (0, 4), (0, 1), (0, 2)] = some [(49, .invokevirtual 227, 3), (52, .ifCond .eq 6, 3), (55, .iinc 4 1, 3), (58, .aload_n 0, 1), (59, .getfield 28, 3), (62, .getfield 144, 3), (65, .iload_n 1, 1), (66, .iaload, 1), (67, .iload_n 2, 1), (68, .if_icmp .ne 6, 3), (71, .iinc 4 2, 3), (74, .aload_n 0, 1), (75, .iload_n 1, 1), (76, .iload_n 2, 1)] := by decide +kernel
theorem dX9_causes_49 : decode cX9_causes 49 = .ok (.invokevirtual 227, 3) := dz_at dqX9_causes_p222 0 rfl
theorem dX9_causes_52 : decode cX9_causes 52 = .ok (.ifCond .eq 6, 3) := dz_at dqX9_causes_p222 1 rfl
theorem dX9_causes_55 : decode cX9_causes 55 = .ok (.iinc 4 1, 3) := dz_at dqX9_causes_p222 2 rfl
theorem dX9_causes_58 : decode cX9_causes 58 = .ok (.aload_n 0, 1) := dz_at dqX9_causes_p222 3 rfl
theorem dX9_causes_59 : decode cX9_causes 59 = .ok (.getfield 28, 3) := dz_at dqX9_causes_p222 4 rfl
theorem dX9_causes_62 : decode cX9_causes 62 = .ok (.getfield 144, 3) := dz_at dqX9_causes_p222 5 rfl
theorem dX9_causes_65 : decode cX9_causes 65 = .ok (.iload_n 1, 1) := dz_at dqX9_causes_p222 6 rfl
theorem dX9_causes_66 : decode cX9_causes 66 = .ok (.iaload, 1) := dz_at dqX9_causes_p222 7 rfl
theorem dX9_causes_67 : decode cX9_causes 67 = .ok (.iload_n 2, 1) := dz_at dqX9_causes_p222 8 rfl
theorem dX9_causes_68 : decode cX9_causes 68 = .ok (.if_icmp .ne 6, 3) := dz_at dqX9_causes_p222 9 rfl
theorem dX9_causes_71 : decode cX9_causes 71 = .ok (.iinc 4 2, 3) := dz_at dqX9_causes_p222 10 rfl
theorem dX9_causes_74 : decode cX9_causes 74 = .ok (.aload_n 0, 1) := dz_at dqX9_causes_p222 11 rfl
theorem dX9_causes_75 : decode cX9_causes 75 = .ok (.iload_n 1, 1) := dz_at dqX9_causes_p222 12 rfl
theorem dX9_causes_76 : decode cX9_causes 76 = .ok (.iload_n 2, 1) := dz_at dqX9_causes_p222 13 rfl
set_option maxRecDepth 20000 in
theorem dqX9_causes_p223 : dz_rn 77 (cX9_causes.data.toList.drop 77) [(3, 1), (4, 7), (5, 0), (1, 0), (0, 12)] = some [(77, .invokevirtual 230, 3), (80, .ifCond .eq 6, 3), (83, .iinc 4 4, 3), (86, .iload 4, 2), (88, .ireturn, 1)] := by decide +kernel
theorem dX9_causes_77 : decode cX9_causes 77 = .ok (.invokevirtual 230, 3) := dz_at dqX9_causes_p223 0 rfl
theorem dX9_causes_80 : decode cX9_causes 80 = .ok (.ifCond .eq 6, 3) := dz_at dqX9_causes_p223 1 rfl
theorem dX9_causes_83 : decode cX9_causes 83 = .ok (.iinc 4 4, 3) := dz_at dqX9_causes_p223 2 rfl
theorem dX9_causes_86 : decode cX9_causes 86 = .ok (.iload 4, 2) := dz_at dqX9_causes_p223 3 rfl
theorem dX9_causes_88 : decode cX9_causes 88 = .ok (.ireturn, 1) := dz_at dqX9_causes_p223 4 rfl
set_option maxRecDepth 20000 in
theorem ggX9_asked_X9_isThing : GoodIn wsX9_asked wsX9_isThing := goodIn_r _ [6, 7, 8, 5, 9] rfl (by decide +kernel)
set_option maxRecDepth 20000 in
theorem gX9_asked_X9_isThing : GoodIn wsX9_asked (va_wsS RX9 103 yX9_isThing wsX9_isThing) := goodIn_app (goodIn_of _ (by decide +kernel)) ggX9_asked_X9_isThing
set_option maxRecDepth 20000 in
theorem ggX9_asked_X9_isRoom : GoodIn wsX9_asked wsX9_isRoom := goodIn_r _ [12, 7, 8, 5, 9] rfl (by decide +kernel)
set_option maxRecDepth 20000 in
theorem gX9_asked_X9_isRoom : GoodIn wsX9_asked (va_wsS RX9 83 yX9_isRoom wsX9_isRoom) := goodIn_app (goodIn_of _ (by decide +kernel)) ggX9_asked_X9_isRoom
set_option maxRecDepth 20000 in
theorem ggX9_asked_X8_between : GoodIn wsX9_asked wsX8_between := goodIn_r _ [17, 18, 43, 44] rfl (by decide +kernel)
set_option maxRecDepth 20000 in
theorem gX9_asked_X8_between : GoodIn wsX9_asked (wsV RX9 99 RX8 yX8_between wsX8_between) := goodIn_app (goodIn_of _ (by decide +kernel)) ggX9_asked_X8_between
set_option maxRecDepth 20000 in
theorem dqX9_asked_p220 : dz_rn 0 (cX9_asked.data.toList.drop 0) [(0, 1), (3, 2), (4, 7), (0, 2), (3, 2), (4, 8), (2, 0), (0, 12), (0, 4), (3, 0), (3, 0), (0, 1), (0, 10), (0, 21)] = some [(0, .iload_n 1, 1), (1, .invokestatic 103, 3), (4, .ifCond .eq 10, 3), (7, .iload_n 2, 1), (8, .invokestatic 83, 3), (11, .ifCond .ne 6, 3), (14, .bipush (-2), 2), (16, .ireturn, 1), (17, .aload_n 0, 1), (18, .getfield 28, 3), (21, .getfield 128, 3), (24, .iload_n 1, 1), (25, .iaload, 1), (26, .istore_n 3, 1)] := by decide +kernel
theorem dX9_asked_0 : decode cX9_asked 0 = .ok (.iload_n 1, 1) := dz_at dqX9_asked_p220 0 rfl
theorem dX9_asked_1 : decode cX9_asked 1 = .ok (.invokestatic 103, 3) := dz_at dqX9_asked_p220 1 rfl
theorem dX9_asked_4 : decode cX9_asked 4 = .ok (.ifCond .eq 10, 3) := dz_at dqX9_asked_p220 2 rfl
theorem dX9_asked_7 : decode cX9_asked 7 = .ok (.iload_n 2, 1) := dz_at dqX9_asked_p220 3 rfl
theorem dX9_asked_8 : decode cX9_asked 8 = .ok (.invokestatic 83, 3) := dz_at dqX9_asked_p220 4 rfl
theorem dX9_asked_11 : decode cX9_asked 11 = .ok (.ifCond .ne 6, 3) := dz_at dqX9_asked_p220 5 rfl
theorem dX9_asked_14 : decode cX9_asked 14 = .ok (.bipush (-2), 2) := dz_at dqX9_asked_p220 6 rfl
theorem dX9_asked_16 : decode cX9_asked 16 = .ok (.ireturn, 1) := dz_at dqX9_asked_p220 7 rfl
theorem dX9_asked_17 : decode cX9_asked 17 = .ok (.aload_n 0, 1) := dz_at dqX9_asked_p220 8 rfl
theorem dX9_asked_18 : decode cX9_asked 18 = .ok (.getfield 28, 3) := dz_at dqX9_asked_p220 9 rfl
theorem dX9_asked_21 : decode cX9_asked 21 = .ok (.getfield 128, 3) := dz_at dqX9_asked_p220 10 rfl
theorem dX9_asked_24 : decode cX9_asked 24 = .ok (.iload_n 1, 1) := dz_at dqX9_asked_p220 11 rfl
theorem dX9_asked_25 : decode cX9_asked 25 = .ok (.iaload, 1) := dz_at dqX9_asked_p220 12 rfl
theorem dX9_asked_26 : decode cX9_asked 26 = .ok (.istore_n 3, 1) := dz_at dqX9_asked_p220 13 rfl
set_option maxRecDepth 20000 in
theorem dqX9_asked_p221 : dz_rn 27 (cX9_asked.data.toList.drop 27) [(0, 3), (0, 13), (4, 2), (0, 13), (0, 12), (0, 4), (3, 0), (0, 2), (0, 3), (2, 0), (0, 27), (3, 1), (1, 1), (1, 0)] = some [(27, .iload_n 3, 1), (28, .iconst (-1), 1), (29, .if_icmp .ne 5, 3), (32, .iconst (-1), 1), (33, .ireturn, 1), (34, .aload_n 0, 1), (35, .getfield 12, 3), (38, .iload_n 2, 1), (39, .iload_n 3, 1), (40, .bipush 6, 2), (42, .idiv, 1), (43, .invokevirtual 99, 3), (46, .istore 4, 2), (48, .iload 4, 2)] := by decide +kernel
theorem dX9_asked_27 : decode cX9_asked 27 = .ok (.iload_n 3, 1) := dz_at dqX9_asked_p221 0 rfl
theorem dX9_asked_28 : decode cX9_asked 28 = .ok (.iconst (-1), 1) := dz_at dqX9_asked_p221 1 rfl
theorem dX9_asked_29 : decode cX9_asked 29 = .ok (.if_icmp .ne 5, 3) := dz_at dqX9_asked_p221 2 rfl
theorem dX9_asked_32 : decode cX9_asked 32 = .ok (.iconst (-1), 1) := dz_at dqX9_asked_p221 3 rfl
theorem dX9_asked_33 : decode cX9_asked 33 = .ok (.ireturn, 1) := dz_at dqX9_asked_p221 4 rfl
theorem dX9_asked_34 : decode cX9_asked 34 = .ok (.aload_n 0, 1) := dz_at dqX9_asked_p221 5 rfl
theorem dX9_asked_35 : decode cX9_asked 35 = .ok (.getfield 12, 3) := dz_at dqX9_asked_p221 6 rfl
theorem dX9_asked_38 : decode cX9_asked 38 = .ok (.iload_n 2, 1) := dz_at dqX9_asked_p221 7 rfl
theorem dX9_asked_39 : decode cX9_asked 39 = .ok (.iload_n 3, 1) := dz_at dqX9_asked_p221 8 rfl
theorem dX9_asked_40 : decode cX9_asked 40 = .ok (.bipush 6, 2) := dz_at dqX9_asked_p221 9 rfl
theorem dX9_asked_42 : decode cX9_asked 42 = .ok (.idiv, 1) := dz_at dqX9_asked_p221 10 rfl
theorem dX9_asked_43 : decode cX9_asked 43 = .ok (.invokevirtual 99, 3) := dz_at dqX9_asked_p221 11 rfl
theorem dX9_asked_46 : decode cX9_asked 46 = .ok (.istore 4, 2) := dz_at dqX9_asked_p221 12 rfl
theorem dX9_asked_48 : decode cX9_asked 48 = .ok (.iload 4, 2) := dz_at dqX9_asked_p221 13 rfl
set_option maxRecDepth 20000 in
theorem dqX9_asked_p222 : dz_rn 50 (cX9_asked.data.toList.drop 50) [(0, 13), (4, 2), (0, 13), (4, 0), (1, 0), (0, 3), (2, 0), (0, 30), (0, 11), (0, 9), (0, 11), (0, 12)] = some [(50, .iconst (-1), 1), (51, .if_icmp .ne 7, 3), (54, .iconst (-1), 1), (55, .goto 12, 3), (58, .iload 4, 2), (60, .iload_n 3, 1), (61, .bipush 6, 2), (63, .irem, 1), (64, .iadd, 1), (65, .iconst 1, 1), (66, .iadd, 1), (67, .ireturn, 1)] := by decide +kernel
theorem dX9_asked_50 : decode cX9_asked 50 = .ok (.iconst (-1), 1) := dz_at dqX9_asked_p222 0 rfl
theorem dX9_asked_51 : decode cX9_asked 51 = .ok (.if_icmp .ne 7, 3) := dz_at dqX9_asked_p222 1 rfl
theorem dX9_asked_54 : decode cX9_asked 54 = .ok (.iconst (-1), 1) := dz_at dqX9_asked_p222 2 rfl
theorem dX9_asked_55 : decode cX9_asked 55 = .ok (.goto 12, 3) := dz_at dqX9_asked_p222 3 rfl
theorem dX9_asked_58 : decode cX9_asked 58 = .ok (.iload 4, 2) := dz_at dqX9_asked_p222 4 rfl
theorem dX9_asked_60 : decode cX9_asked 60 = .ok (.iload_n 3, 1) := dz_at dqX9_asked_p222 5 rfl
theorem dX9_asked_61 : decode cX9_asked 61 = .ok (.bipush 6, 2) := dz_at dqX9_asked_p222 6 rfl
theorem dX9_asked_63 : decode cX9_asked 63 = .ok (.irem, 1) := dz_at dqX9_asked_p222 7 rfl
theorem dX9_asked_64 : decode cX9_asked 64 = .ok (.iadd, 1) := dz_at dqX9_asked_p222 8 rfl
theorem dX9_asked_65 : decode cX9_asked 65 = .ok (.iconst 1, 1) := dz_at dqX9_asked_p222 9 rfl
theorem dX9_asked_66 : decode cX9_asked 66 = .ok (.iadd, 1) := dz_at dqX9_asked_p222 10 rfl
theorem dX9_asked_67 : decode cX9_asked 67 = .ok (.ireturn, 1) := dz_at dqX9_asked_p222 11 rfl
set_option maxRecDepth 20000 in
theorem ggX9_beside_X9_isThing : GoodIn wsX9_beside wsX9_isThing := goodIn_r _ [5, 6, 7, 4, 8] rfl (by decide +kernel)
set_option maxRecDepth 20000 in
theorem gX9_beside_X9_isThing : GoodIn wsX9_beside (va_wsS RX9 103 yX9_isThing wsX9_isThing) := goodIn_app (goodIn_of _ (by decide +kernel)) ggX9_beside_X9_isThing
set_option maxRecDepth 20000 in
theorem ggX9_beside_X9_within : GoodIn wsX9_beside wsX9_within := goodIn_r _ [8] rfl (by decide +kernel)
set_option maxRecDepth 20000 in
theorem gX9_beside_X9_within : GoodIn wsX9_beside (va_wsS RX9 106 yX9_within wsX9_within) := goodIn_app (goodIn_of _ (by decide +kernel)) ggX9_beside_X9_within
set_option maxRecDepth 20000 in
theorem ggX9_beside_X1_nextOnTop : GoodIn wsX9_beside wsX1_nextOnTop := goodIn_r _ [13, 14, 26, 27, 28, 29, 30, 31, 32, 33, 34, 35, 36, 37, 38] rfl (by decide +kernel)
set_option maxRecDepth 20000 in
theorem gX9_beside_X1_nextOnTop : GoodIn wsX9_beside (wsV RX9 233 RX1 yX1_nextOnTop wsX1_nextOnTop) := goodIn_app (goodIn_of _ (by decide +kernel)) ggX9_beside_X1_nextOnTop
set_option maxRecDepth 20000 in
theorem dqX9_beside_p220 : dz_rn 0 (cX9_beside.data.toList.drop 0) [(0, 1), (3, 2), (4, 8), (2, 0), (0, 12), (0, 2), (0, 8), (0, 9), (3, 2), (4, 8), (2, 0), (0, 12), (0, 4), (3, 0)] = some [(0, .iload_n 1, 1), (1, .invokestatic 103, 3), (4, .ifCond .ne 6, 3), (7, .bipush (-2), 2), (9, .ireturn, 1), (10, .iload_n 2, 1), (11, .iconst 0, 1), (12, .iconst 1, 1), (13, .invokestatic 106, 3), (16, .ifCond .ne 6, 3), (19, .bipush (-3), 2), (21, .ireturn, 1), (22, .aload_n 0, 1), (23, .getfield 28, 3)] := by decide +kernel
theorem dX9_beside_0 : decode cX9_beside 0 = .ok (.iload_n 1, 1) := dz_at dqX9_beside_p220 0 rfl
theorem dX9_beside_1 : decode cX9_beside 1 = .ok (.invokestatic 103, 3) := dz_at dqX9_beside_p220 1 rfl
theorem dX9_beside_4 : decode cX9_beside 4 = .ok (.ifCond .ne 6, 3) := dz_at dqX9_beside_p220 2 rfl
theorem dX9_beside_7 : decode cX9_beside 7 = .ok (.bipush (-2), 2) := dz_at dqX9_beside_p220 3 rfl
theorem dX9_beside_9 : decode cX9_beside 9 = .ok (.ireturn, 1) := dz_at dqX9_beside_p220 4 rfl
theorem dX9_beside_10 : decode cX9_beside 10 = .ok (.iload_n 2, 1) := dz_at dqX9_beside_p220 5 rfl
theorem dX9_beside_11 : decode cX9_beside 11 = .ok (.iconst 0, 1) := dz_at dqX9_beside_p220 6 rfl
theorem dX9_beside_12 : decode cX9_beside 12 = .ok (.iconst 1, 1) := dz_at dqX9_beside_p220 7 rfl
theorem dX9_beside_13 : decode cX9_beside 13 = .ok (.invokestatic 106, 3) := dz_at dqX9_beside_p220 8 rfl
theorem dX9_beside_16 : decode cX9_beside 16 = .ok (.ifCond .ne 6, 3) := dz_at dqX9_beside_p220 9 rfl
theorem dX9_beside_19 : decode cX9_beside 19 = .ok (.bipush (-3), 2) := dz_at dqX9_beside_p220 10 rfl
theorem dX9_beside_21 : decode cX9_beside 21 = .ok (.ireturn, 1) := dz_at dqX9_beside_p220 11 rfl
theorem dX9_beside_22 : decode cX9_beside 22 = .ok (.aload_n 0, 1) := dz_at dqX9_beside_p220 12 rfl
theorem dX9_beside_23 : decode cX9_beside 23 = .ok (.getfield 28, 3) := dz_at dqX9_beside_p220 13 rfl
set_option maxRecDepth 20000 in
theorem dqX9_beside_p221 : dz_rn 26 (cX9_beside.data.toList.drop 26) [(3, 0), (0, 1), (0, 10), (0, 21), (0, 3), (0, 13), (4, 2), (0, 13), (4, 0), (0, 4), (3, 0), (0, 3), (0, 2), (0, 9)] = some [(26, .getfield 128, 3), (29, .iload_n 1, 1), (30, .iaload, 1), (31, .istore_n 3, 1), (32, .iload_n 3, 1), (33, .iconst (-1), 1), (34, .if_icmp .ne 7, 3), (37, .iconst (-1), 1), (38, .goto 21, 3), (41, .aload_n 0, 1), (42, .getfield 28, 3), (45, .iload_n 3, 1), (46, .iload_n 2, 1), (47, .iconst 1, 1)] := by decide +kernel
theorem dX9_beside_26 : decode cX9_beside 26 = .ok (.getfield 128, 3) := dz_at dqX9_beside_p221 0 rfl
theorem dX9_beside_29 : decode cX9_beside 29 = .ok (.iload_n 1, 1) := dz_at dqX9_beside_p221 1 rfl
theorem dX9_beside_30 : decode cX9_beside 30 = .ok (.iaload, 1) := dz_at dqX9_beside_p221 2 rfl
theorem dX9_beside_31 : decode cX9_beside 31 = .ok (.istore_n 3, 1) := dz_at dqX9_beside_p221 3 rfl
theorem dX9_beside_32 : decode cX9_beside 32 = .ok (.iload_n 3, 1) := dz_at dqX9_beside_p221 4 rfl
theorem dX9_beside_33 : decode cX9_beside 33 = .ok (.iconst (-1), 1) := dz_at dqX9_beside_p221 5 rfl
theorem dX9_beside_34 : decode cX9_beside 34 = .ok (.if_icmp .ne 7, 3) := dz_at dqX9_beside_p221 6 rfl
theorem dX9_beside_37 : decode cX9_beside 37 = .ok (.iconst (-1), 1) := dz_at dqX9_beside_p221 7 rfl
theorem dX9_beside_38 : decode cX9_beside 38 = .ok (.goto 21, 3) := dz_at dqX9_beside_p221 8 rfl
theorem dX9_beside_41 : decode cX9_beside 41 = .ok (.aload_n 0, 1) := dz_at dqX9_beside_p221 9 rfl
theorem dX9_beside_42 : decode cX9_beside 42 = .ok (.getfield 28, 3) := dz_at dqX9_beside_p221 10 rfl
theorem dX9_beside_45 : decode cX9_beside 45 = .ok (.iload_n 3, 1) := dz_at dqX9_beside_p221 11 rfl
theorem dX9_beside_46 : decode cX9_beside 46 = .ok (.iload_n 2, 1) := dz_at dqX9_beside_p221 12 rfl
theorem dX9_beside_47 : decode cX9_beside 47 = .ok (.iconst 1, 1) := dz_at dqX9_beside_p221 13 rfl
set_option maxRecDepth 20000 in
theorem dqX9_beside_p222 : dz_rn 48 (cX9_beside.data.toList.drop 48) [(4, 2), (0, 9), (4, 0), (0, 13), (3, 1), (0, 12)] = some [(48, .if_icmp .ne 7, 3), (51, .iconst 1, 1), (52, .goto 4, 3), (55, .iconst (-1), 1), (56, .invokevirtual 233, 3), (59, .ireturn, 1)] := by decide +kernel
theorem dX9_beside_48 : decode cX9_beside 48 = .ok (.if_icmp .ne 7, 3) := dz_at dqX9_beside_p222 0 rfl
theorem dX9_beside_51 : decode cX9_beside 51 = .ok (.iconst 1, 1) := dz_at dqX9_beside_p222 1 rfl
theorem dX9_beside_52 : decode cX9_beside 52 = .ok (.goto 4, 3) := dz_at dqX9_beside_p222 2 rfl
theorem dX9_beside_55 : decode cX9_beside 55 = .ok (.iconst (-1), 1) := dz_at dqX9_beside_p222 3 rfl
theorem dX9_beside_56 : decode cX9_beside 56 = .ok (.invokevirtual 233, 3) := dz_at dqX9_beside_p222 4 rfl
theorem dX9_beside_59 : decode cX9_beside 59 = .ok (.ireturn, 1) := dz_at dqX9_beside_p222 5 rfl
set_option maxRecDepth 20000 in
theorem ggX9_answer_X9_within : GoodIn wsX9_answer wsX9_within := goodIn_r _ [5] rfl (by decide +kernel)
set_option maxRecDepth 20000 in
theorem gX9_answer_X9_within : GoodIn wsX9_answer (va_wsS RX9 106 yX9_within wsX9_within) := goodIn_app (goodIn_of _ (by decide +kernel)) ggX9_answer_X9_within
set_option maxRecDepth 20000 in
theorem ggX9_answer_X4_note : GoodIn wsX9_answer wsX4_note := goodIn_r _ [10, 11, 12, 13, 14, 9, 15, 16, 17, 18, 19, 20, 21, 33, 34] rfl (by decide +kernel)
set_option maxRecDepth 20000 in
theorem gX9_answer_X4_note : GoodIn wsX9_answer (wsV RX9 239 RX4 yX4_note wsX4_note) := goodIn_app (goodIn_of _ (by decide +kernel)) ggX9_answer_X4_note
set_option maxRecDepth 20000 in
theorem dqX9_answer_p220 : dz_rn 0 (cX9_answer.data.toList.drop 0) [(0, 1), (0, 8), (0, 15), (3, 2), (4, 8), (2, 0), (0, 12), (0, 2), (0, 9), (2, 0), (3, 2), (4, 8), (2, 0), (0, 12)] = some [(0, .iload_n 1, 1), (1, .iconst 0, 1), (2, .iconst 3, 1), (3, .invokestatic 106, 3), (6, .ifCond .ne 6, 3), (9, .bipush (-2), 2), (11, .ireturn, 1), (12, .iload_n 2, 1), (13, .iconst 1, 1), (14, .bipush 60, 2), (16, .invokestatic 106, 3), (19, .ifCond .ne 6, 3), (22, .bipush (-3), 2), (24, .ireturn, 1)] := by decide +kernel
theorem dX9_answer_0 : decode cX9_answer 0 = .ok (.iload_n 1, 1) := dz_at dqX9_answer_p220 0 rfl
theorem dX9_answer_1 : decode cX9_answer 1 = .ok (.iconst 0, 1) := dz_at dqX9_answer_p220 1 rfl
theorem dX9_answer_2 : decode cX9_answer 2 = .ok (.iconst 3, 1) := dz_at dqX9_answer_p220 2 rfl
theorem dX9_answer_3 : decode cX9_answer 3 = .ok (.invokestatic 106, 3) := dz_at dqX9_answer_p220 3 rfl
theorem dX9_answer_6 : decode cX9_answer 6 = .ok (.ifCond .ne 6, 3) := dz_at dqX9_answer_p220 4 rfl
theorem dX9_answer_9 : decode cX9_answer 9 = .ok (.bipush (-2), 2) := dz_at dqX9_answer_p220 5 rfl
theorem dX9_answer_11 : decode cX9_answer 11 = .ok (.ireturn, 1) := dz_at dqX9_answer_p220 6 rfl
theorem dX9_answer_12 : decode cX9_answer 12 = .ok (.iload_n 2, 1) := dz_at dqX9_answer_p220 7 rfl
theorem dX9_answer_13 : decode cX9_answer 13 = .ok (.iconst 1, 1) := dz_at dqX9_answer_p220 8 rfl
theorem dX9_answer_14 : decode cX9_answer 14 = .ok (.bipush 60, 2) := dz_at dqX9_answer_p220 9 rfl
theorem dX9_answer_16 : decode cX9_answer 16 = .ok (.invokestatic 106, 3) := dz_at dqX9_answer_p220 10 rfl
theorem dX9_answer_19 : decode cX9_answer 19 = .ok (.ifCond .ne 6, 3) := dz_at dqX9_answer_p220 11 rfl
theorem dX9_answer_22 : decode cX9_answer 22 = .ok (.bipush (-3), 2) := dz_at dqX9_answer_p220 12 rfl
theorem dX9_answer_24 : decode cX9_answer 24 = .ok (.ireturn, 1) := dz_at dqX9_answer_p220 13 rfl
set_option maxRecDepth 20000 in
theorem dqX9_answer_p221 : dz_rn 25 (cX9_answer.data.toList.drop 25) [(0, 4), (3, 0), (0, 1)] = some [(25, .aload_n 0, 1), (26, .getfield 64, 3), (29, .iload_n 1, 1)] := by decide +kernel
theorem dX9_answer_25 : decode cX9_answer 25 = .ok (.aload_n 0, 1) := dz_at dqX9_answer_p221 0 rfl
theorem dX9_answer_26 : decode cX9_answer 26 = .ok (.getfield 64, 3) := dz_at dqX9_answer_p221 1 rfl
theorem dX9_answer_29 : decode cX9_answer 29 = .ok (.iload_n 1, 1) := dz_at dqX9_answer_p221 2 rfl
theorem dX9_answer_30 : decode cX9_answer 30 = .ok (.aaload, 1) := by decide +kernel
theorem dX9_answer_31 : decode cX9_answer 31 = .ok (.astore 4, 2) := by decide +kernel
theorem dX9_answer_33 : decode cX9_answer 33 = .ok (.aload 4, 2) := by decide +kernel
set_option maxRecDepth 20000 in
theorem dqX9_answer_p222 : dz_rn 35 (cX9_answer.data.toList.drop 35) [(3, 0), (2, 0), (4, 3), (2, 0), (0, 12)] = some [(35, .getfield 236, 3), (38, .bipush 12, 2), (40, .if_icmp .lt 6, 3), (43, .bipush (-5), 2), (45, .ireturn, 1)] := by decide +kernel
theorem dX9_answer_35 : decode cX9_answer 35 = .ok (.getfield 236, 3) := dz_at dqX9_answer_p222 0 rfl
theorem dX9_answer_38 : decode cX9_answer 38 = .ok (.bipush 12, 2) := dz_at dqX9_answer_p222 1 rfl
theorem dX9_answer_40 : decode cX9_answer 40 = .ok (.if_icmp .lt 6, 3) := dz_at dqX9_answer_p222 2 rfl
theorem dX9_answer_43 : decode cX9_answer 43 = .ok (.bipush (-5), 2) := dz_at dqX9_answer_p222 3 rfl
theorem dX9_answer_45 : decode cX9_answer 45 = .ok (.ireturn, 1) := dz_at dqX9_answer_p222 4 rfl
theorem dX9_answer_46 : decode cX9_answer 46 = .ok (.aload 4, 2) := by decide +kernel
set_option maxRecDepth 20000 in
theorem dqX9_answer_p223 : dz_rn 48 (cX9_answer.data.toList.drop 48) [(0, 2), (0, 3), (3, 1)] = some [(48, .iload_n 2, 1), (49, .iload_n 3, 1), (50, .invokevirtual 239, 3)] := by decide +kernel
theorem dX9_answer_48 : decode cX9_answer 48 = .ok (.iload_n 2, 1) := dz_at dqX9_answer_p223 0 rfl
theorem dX9_answer_49 : decode cX9_answer 49 = .ok (.iload_n 3, 1) := dz_at dqX9_answer_p223 1 rfl
theorem dX9_answer_50 : decode cX9_answer 50 = .ok (.invokevirtual 239, 3) := dz_at dqX9_answer_p223 2 rfl
theorem dX9_answer_53 : decode cX9_answer 53 = .ok (.aload 4, 2) := by decide +kernel
set_option maxRecDepth 20000 in
theorem dqX9_answer_p224 : dz_rn 55 (cX9_answer.data.toList.drop 55) [(3, 0), (0, 12)] = some [(55, .getfield 236, 3), (58, .ireturn, 1)] := by decide +kernel
theorem dX9_answer_55 : decode cX9_answer 55 = .ok (.getfield 236, 3) := dz_at dqX9_answer_p224 0 rfl
theorem dX9_answer_58 : decode cX9_answer 58 = .ok (.ireturn, 1) := dz_at dqX9_answer_p224 1 rfl
set_option maxRecDepth 20000 in
theorem ggX9_pupil_X9_within : GoodIn wsX9_pupil wsX9_within := goodIn_r _ [5] rfl (by decide +kernel)
set_option maxRecDepth 20000 in
theorem gX9_pupil_X9_within : GoodIn wsX9_pupil (va_wsS RX9 106 yX9_within wsX9_within) := goodIn_app (goodIn_of _ (by decide +kernel)) ggX9_pupil_X9_within
set_option maxRecDepth 20000 in
theorem ggX9_pupil_X4_tablesThatMayBe : GoodIn wsX9_pupil wsX4_tablesThatMayBe := goodIn_r _ [10, 11, 12, 13, 9, 14, 15, 16, 62, 63] rfl (by decide +kernel)
set_option maxRecDepth 20000 in
theorem gX9_pupil_X4_tablesThatMayBe : GoodIn wsX9_pupil (wsV RX9 243 RX4 yX4_tablesThatMayBe wsX4_tablesThatMayBe) := goodIn_app (goodIn_of _ (by decide +kernel)) ggX9_pupil_X4_tablesThatMayBe
set_option maxRecDepth 20000 in
theorem ggX9_pupil_X4_nameOfLikeliest : GoodIn wsX9_pupil wsX4_nameOfLikeliest := goodIn_r _ [20, 21, 22, 23, 9, 24, 15, 25, 26, 27, 28, 29, 30, 62, 63] rfl (by decide +kernel)
set_option maxRecDepth 20000 in
theorem gX9_pupil_X4_nameOfLikeliest : GoodIn wsX9_pupil (wsV RX9 247 RX4 yX4_nameOfLikeliest wsX4_nameOfLikeliest) := goodIn_app (goodIn_of _ (by decide +kernel)) ggX9_pupil_X4_nameOfLikeliest
set_option maxRecDepth 20000 in
theorem ggX9_pupil_X4_agreementOfLikeliest : GoodIn wsX9_pupil wsX4_agreementOfLikeliest := goodIn_r _ [34, 15, 21, 22, 23, 9, 24, 62, 63] rfl (by decide +kernel)
set_option maxRecDepth 20000 in
theorem gX9_pupil_X4_agreementOfLikeliest : GoodIn wsX9_pupil (wsV RX9 250 RX4 yX4_agreementOfLikeliest wsX4_agreementOfLikeliest) := goodIn_app (goodIn_of _ (by decide +kernel)) ggX9_pupil_X4_agreementOfLikeliest
set_option maxRecDepth 20000 in
theorem ggX9_pupil_X4_dayThatParts : GoodIn wsX9_pupil wsX4_dayThatParts := goodIn_r _ [38, 39, 7, 8, 9, 10, 11, 12, 13, 14, 15, 16, 40, 41, 42, 43, 44, 45, 46, 47, 48, 49, 50, 25, 26, 27, 28, 29, 30, 62, 63] rfl (by decide +kernel)
set_option maxRecDepth 20000 in
theorem gX9_pupil_X4_dayThatParts : GoodIn wsX9_pupil (wsV RX9 253 RX4 yX4_dayThatParts wsX4_dayThatParts) := goodIn_app (goodIn_of _ (by decide +kernel)) ggX9_pupil_X4_dayThatParts
set_option maxRecDepth 20000 in
theorem dqX9_pupil_p220 : dz_rn 0 (cX9_pupil.data.toList.drop 0) [(0, 1), (0, 8), (0, 15), (3, 2), (4, 8), (2, 0), (0, 12), (0, 4), (3, 0), (0, 1)] = some [(0, .iload_n 1, 1), (1, .iconst 0, 1), (2, .iconst 3, 1), (3, .invokestatic 106, 3), (6, .ifCond .ne 6, 3), (9, .bipush (-2), 2), (11, .ireturn, 1), (12, .aload_n 0, 1), (13, .getfield 64, 3), (16, .iload_n 1, 1)] := by decide +kernel
theorem dX9_pupil_0 : decode cX9_pupil 0 = .ok (.iload_n 1, 1) := dz_at dqX9_pupil_p220 0 rfl
theorem dX9_pupil_1 : decode cX9_pupil 1 = .ok (.iconst 0, 1) := dz_at dqX9_pupil_p220 1 rfl
theorem dX9_pupil_2 : decode cX9_pupil 2 = .ok (.iconst 3, 1) := dz_at dqX9_pupil_p220 2 rfl
theorem dX9_pupil_3 : decode cX9_pupil 3 = .ok (.invokestatic 106, 3) := dz_at dqX9_pupil_p220 3 rfl
theorem dX9_pupil_6 : decode cX9_pupil 6 = .ok (.ifCond .ne 6, 3) := dz_at dqX9_pupil_p220 4 rfl
theorem dX9_pupil_9 : decode cX9_pupil 9 = .ok (.bipush (-2), 2) := dz_at dqX9_pupil_p220 5 rfl
theorem dX9_pupil_11 : decode cX9_pupil 11 = .ok (.ireturn, 1) := dz_at dqX9_pupil_p220 6 rfl
theorem dX9_pupil_12 : decode cX9_pupil 12 = .ok (.aload_n 0, 1) := dz_at dqX9_pupil_p220 7 rfl
theorem dX9_pupil_13 : decode cX9_pupil 13 = .ok (.getfield 64, 3) := dz_at dqX9_pupil_p220 8 rfl
theorem dX9_pupil_16 : decode cX9_pupil 16 = .ok (.iload_n 1, 1) := dz_at dqX9_pupil_p220 9 rfl
theorem dX9_pupil_17 : decode cX9_pupil 17 = .ok (.aaload, 1) := by decide +kernel
set_option maxRecDepth 20000 in
theorem dqX9_pupil_p221 : dz_rn 18 (cX9_pupil.data.toList.drop 18) [(0, 50), (0, 2)] = some [(18, .astore_n 3, 1), (19, .iload_n 2, 1)] := by decide +kernel
theorem dX9_pupil_18 : decode cX9_pupil 18 = .ok (.astore_n 3, 1) := dz_at dqX9_pupil_p221 0 rfl
theorem dX9_pupil_19 : decode cX9_pupil 19 = .ok (.iload_n 2, 1) := dz_at dqX9_pupil_p221 1 rfl
theorem dX9_pupil_20 : decode cX9_pupil 20 = .ok (.tableswitch 52 0 3 #[32, 37, 42, 47], 32) := by decide +kernel
set_option maxRecDepth 20000 in
theorem dqX9_pupil_p222 : dz_rn 52 (cX9_pupil.data.toList.drop 52) [(0, 7), (3, 1), (0, 12), (0, 7), (3, 1), (0, 12), (0, 7), (3, 1), (0, 12), (0, 7), (3, 1), (0, 12), (2, 0), (0, 12)] = some [(52, .aload_n 3, 1), (53, .invokevirtual 243, 3), (56, .ireturn, 1), (57, .aload_n 3, 1), (58, .invokevirtual 247, 3), (61, .ireturn, 1), (62, .aload_n 3, 1), (63, .invokevirtual 250, 3), (66, .ireturn, 1), (67, .aload_n 3, 1), (68, .invokevirtual 253, 3), (71, .ireturn, 1), (72, .bipush (-3), 2), (74, .ireturn, 1)] := by decide +kernel
theorem dX9_pupil_52 : decode cX9_pupil 52 = .ok (.aload_n 3, 1) := dz_at dqX9_pupil_p222 0 rfl
theorem dX9_pupil_53 : decode cX9_pupil 53 = .ok (.invokevirtual 243, 3) := dz_at dqX9_pupil_p222 1 rfl
theorem dX9_pupil_56 : decode cX9_pupil 56 = .ok (.ireturn, 1) := dz_at dqX9_pupil_p222 2 rfl
theorem dX9_pupil_57 : decode cX9_pupil 57 = .ok (.aload_n 3, 1) := dz_at dqX9_pupil_p222 3 rfl
theorem dX9_pupil_58 : decode cX9_pupil 58 = .ok (.invokevirtual 247, 3) := dz_at dqX9_pupil_p222 4 rfl
theorem dX9_pupil_61 : decode cX9_pupil 61 = .ok (.ireturn, 1) := dz_at dqX9_pupil_p222 5 rfl
theorem dX9_pupil_62 : decode cX9_pupil 62 = .ok (.aload_n 3, 1) := dz_at dqX9_pupil_p222 6 rfl
theorem dX9_pupil_63 : decode cX9_pupil 63 = .ok (.invokevirtual 250, 3) := dz_at dqX9_pupil_p222 7 rfl
theorem dX9_pupil_66 : decode cX9_pupil 66 = .ok (.ireturn, 1) := dz_at dqX9_pupil_p222 8 rfl
theorem dX9_pupil_67 : decode cX9_pupil 67 = .ok (.aload_n 3, 1) := dz_at dqX9_pupil_p222 9 rfl
theorem dX9_pupil_68 : decode cX9_pupil 68 = .ok (.invokevirtual 253, 3) := dz_at dqX9_pupil_p222 10 rfl
theorem dX9_pupil_71 : decode cX9_pupil 71 = .ok (.ireturn, 1) := dz_at dqX9_pupil_p222 11 rfl
theorem dX9_pupil_72 : decode cX9_pupil 72 = .ok (.bipush (-3), 2) := dz_at dqX9_pupil_p222 12 rfl
theorem dX9_pupil_74 : decode cX9_pupil 74 = .ok (.ireturn, 1) := dz_at dqX9_pupil_p222 13 rfl
set_option maxRecDepth 20000 in
theorem ggX9_figures_X9_isFigure : GoodIn wsX9_figures wsX9_isFigure := goodIn_r _ [5, 6, 7, 4, 8] rfl (by decide +kernel)
set_option maxRecDepth 20000 in
theorem gX9_figures_X9_isFigure : GoodIn wsX9_figures (va_wsS RX9 256 yX9_isFigure wsX9_isFigure) := goodIn_app (goodIn_of _ (by decide +kernel)) ggX9_figures_X9_isFigure
set_option maxRecDepth 20000 in
theorem ggX9_figures_X9_within : GoodIn wsX9_figures wsX9_within := goodIn_r _ [8] rfl (by decide +kernel)
set_option maxRecDepth 20000 in
theorem gX9_figures_X9_within : GoodIn wsX9_figures (va_wsS RX9 106 yX9_within wsX9_within) := goodIn_app (goodIn_of _ (by decide +kernel)) ggX9_figures_X9_within
set_option maxRecDepth 20000 in
theorem ggX9_figures_X0_exchangeAlike : GoodIn wsX9_figures wsX0_exchangeAlike := goodIn_r _ [13, 14, 26, 27, 28, 29, 30, 31] rfl (by decide +kernel)
set_option maxRecDepth 20000 in
theorem gX9_figures_X0_exchangeAlike : GoodIn wsX9_figures (wsV RX9 259 RX0 yX0_exchangeAlike wsX0_exchangeAlike) := goodIn_app (goodIn_of _ (by decide +kernel)) ggX9_figures_X0_exchangeAlike
set_option maxRecDepth 20000 in
theorem dqX9_figures_p220 : dz_rn 0 (cX9_figures.data.toList.drop 0) [(0, 1), (3, 2), (4, 7), (0, 2), (3, 2), (4, 7), (0, 1), (0, 2), (4, 2), (2, 0), (0, 12), (0, 3), (0, 8), (2, 0)] = some [(0, .iload_n 1, 1), (1, .invokestatic 256, 3), (4, .ifCond .eq 15, 3), (7, .iload_n 2, 1), (8, .invokestatic 256, 3), (11, .ifCond .eq 8, 3), (14, .iload_n 1, 1), (15, .iload_n 2, 1), (16, .if_icmp .ne 6, 3), (19, .bipush (-2), 2), (21, .ireturn, 1), (22, .iload_n 3, 1), (23, .iconst 0, 1), (24, .bipush 9, 2)] := by decide +kernel
theorem dX9_figures_0 : decode cX9_figures 0 = .ok (.iload_n 1, 1) := dz_at dqX9_figures_p220 0 rfl
theorem dX9_figures_1 : decode cX9_figures 1 = .ok (.invokestatic 256, 3) := dz_at dqX9_figures_p220 1 rfl
theorem dX9_figures_4 : decode cX9_figures 4 = .ok (.ifCond .eq 15, 3) := dz_at dqX9_figures_p220 2 rfl
theorem dX9_figures_7 : decode cX9_figures 7 = .ok (.iload_n 2, 1) := dz_at dqX9_figures_p220 3 rfl
theorem dX9_figures_8 : decode cX9_figures 8 = .ok (.invokestatic 256, 3) := dz_at dqX9_figures_p220 4 rfl
theorem dX9_figures_11 : decode cX9_figures 11 = .ok (.ifCond .eq 8, 3) := dz_at dqX9_figures_p220 5 rfl
theorem dX9_figures_14 : decode cX9_figures 14 = .ok (.iload_n 1, 1) := dz_at dqX9_figures_p220 6 rfl
theorem dX9_figures_15 : decode cX9_figures 15 = .ok (.iload_n 2, 1) := dz_at dqX9_figures_p220 7 rfl
theorem dX9_figures_16 : decode cX9_figures 16 = .ok (.if_icmp .ne 6, 3) := dz_at dqX9_figures_p220 8 rfl
theorem dX9_figures_19 : decode cX9_figures 19 = .ok (.bipush (-2), 2) := dz_at dqX9_figures_p220 9 rfl
theorem dX9_figures_21 : decode cX9_figures 21 = .ok (.ireturn, 1) := dz_at dqX9_figures_p220 10 rfl
theorem dX9_figures_22 : decode cX9_figures 22 = .ok (.iload_n 3, 1) := dz_at dqX9_figures_p220 11 rfl
theorem dX9_figures_23 : decode cX9_figures 23 = .ok (.iconst 0, 1) := dz_at dqX9_figures_p220 12 rfl
theorem dX9_figures_24 : decode cX9_figures 24 = .ok (.bipush 9, 2) := dz_at dqX9_figures_p220 13 rfl
set_option maxRecDepth 20000 in
theorem dqX9_figures_p221 : dz_rn 26 (cX9_figures.data.toList.drop 26) [(3, 2), (4, 8), (2, 0), (0, 12), (0, 4), (3, 0), (0, 1), (0, 2), (0, 3), (3, 1), (0, 12)] = some [(26, .invokestatic 106, 3), (29, .ifCond .ne 6, 3), (32, .bipush (-3), 2), (34, .ireturn, 1), (35, .aload_n 0, 1), (36, .getfield 58, 3), (39, .iload_n 1, 1), (40, .iload_n 2, 1), (41, .iload_n 3, 1), (42, .invokevirtual 259, 3), (45, .ireturn, 1)] := by decide +kernel
theorem dX9_figures_26 : decode cX9_figures 26 = .ok (.invokestatic 106, 3) := dz_at dqX9_figures_p221 0 rfl
theorem dX9_figures_29 : decode cX9_figures 29 = .ok (.ifCond .ne 6, 3) := dz_at dqX9_figures_p221 1 rfl
theorem dX9_figures_32 : decode cX9_figures 32 = .ok (.bipush (-3), 2) := dz_at dqX9_figures_p221 2 rfl
theorem dX9_figures_34 : decode cX9_figures 34 = .ok (.ireturn, 1) := dz_at dqX9_figures_p221 3 rfl
theorem dX9_figures_35 : decode cX9_figures 35 = .ok (.aload_n 0, 1) := dz_at dqX9_figures_p221 4 rfl
theorem dX9_figures_36 : decode cX9_figures 36 = .ok (.getfield 58, 3) := dz_at dqX9_figures_p221 5 rfl
theorem dX9_figures_39 : decode cX9_figures 39 = .ok (.iload_n 1, 1) := dz_at dqX9_figures_p221 6 rfl
theorem dX9_figures_40 : decode cX9_figures 40 = .ok (.iload_n 2, 1) := dz_at dqX9_figures_p221 7 rfl
theorem dX9_figures_41 : decode cX9_figures 41 = .ok (.iload_n 3, 1) := dz_at dqX9_figures_p221 8 rfl
theorem dX9_figures_42 : decode cX9_figures 42 = .ok (.invokevirtual 259, 3) := dz_at dqX9_figures_p221 9 rfl
theorem dX9_figures_45 : decode cX9_figures 45 = .ok (.ireturn, 1) := dz_at dqX9_figures_p221 10 rfl
set_option maxRecDepth 20000 in
theorem ggX9_code_X9_rowRefusal : GoodIn wsX9_code wsX9_rowRefusal := goodIn_r _ [7, 8, 9, 10, 11, 2, 12, 13, 6, 14, 15, 16, 17, 18, 19, 20, 21, 58, 59, 60, 61, 62, 63, 64, 65, 66, 67, 68] rfl (by decide +kernel)
set_option maxRecDepth 20000 in
theorem gX9_code_X9_rowRefusal : GoodIn wsX9_code (wsV RX9 189 RX9 yX9_rowRefusal wsX9_rowRefusal) := goodIn_app (goodIn_of _ (by decide +kernel)) ggX9_code_X9_rowRefusal
set_option maxRecDepth 20000 in
theorem ggX9_code_X0_findBest : GoodIn wsX9_code wsX0_findBest := goodIn_r _ [26, 27, 28, 29, 30, 31, 32, 33, 34, 35, 25, 36, 37, 38, 39, 40, 41, 42, 43, 44, 45, 46, 47, 48, 49, 50, 51, 52, 53, 54, 55, 56, 57, 69, 70, 71, 72, 73, 74, 75] rfl (by decide +kernel)
set_option maxRecDepth 20000 in
theorem gX9_code_X0_findBest : GoodIn wsX9_code (wsV RX9 263 RX0 yX0_findBest wsX0_findBest) := goodIn_app (goodIn_of _ (by decide +kernel)) ggX9_code_X0_findBest
set_option maxRecDepth 20000 in
theorem dqX9_code_p220 : dz_rn 0 (cX9_code.data.toList.drop 0) [(0, 4), (0, 35), (0, 3), (1, 0), (0, 14), (2, 0), (3, 1), (1, 1), (1, 0), (4, 7), (1, 0), (0, 12), (1, 0), (0, 3)] = some [(0, .aload_n 0, 1), (1, .lload_n 1, 1), (2, .iload_n 3, 1), (3, .iload 4, 2), (5, .iconst 2, 1), (6, .bipush 6, 2), (8, .invokevirtual 189, 3), (11, .istore 5, 2), (13, .iload 5, 2), (15, .ifCond .eq 6, 3), (18, .iload 5, 2), (20, .ireturn, 1), (21, .iload 4, 2), (23, .iload_n 3, 1)] := by decide +kernel
theorem dX9_code_0 : decode cX9_code 0 = .ok (.aload_n 0, 1) := dz_at dqX9_code_p220 0 rfl
theorem dX9_code_1 : decode cX9_code 1 = .ok (.lload_n 1, 1) := dz_at dqX9_code_p220 1 rfl
theorem dX9_code_2 : decode cX9_code 2 = .ok (.iload_n 3, 1) := dz_at dqX9_code_p220 2 rfl
theorem dX9_code_3 : decode cX9_code 3 = .ok (.iload 4, 2) := dz_at dqX9_code_p220 3 rfl
theorem dX9_code_5 : decode cX9_code 5 = .ok (.iconst 2, 1) := dz_at dqX9_code_p220 4 rfl
theorem dX9_code_6 : decode cX9_code 6 = .ok (.bipush 6, 2) := dz_at dqX9_code_p220 5 rfl
theorem dX9_code_8 : decode cX9_code 8 = .ok (.invokevirtual 189, 3) := dz_at dqX9_code_p220 6 rfl
theorem dX9_code_11 : decode cX9_code 11 = .ok (.istore 5, 2) := dz_at dqX9_code_p220 7 rfl
theorem dX9_code_13 : decode cX9_code 13 = .ok (.iload 5, 2) := dz_at dqX9_code_p220 8 rfl
theorem dX9_code_15 : decode cX9_code 15 = .ok (.ifCond .eq 6, 3) := dz_at dqX9_code_p220 9 rfl
theorem dX9_code_18 : decode cX9_code 18 = .ok (.iload 5, 2) := dz_at dqX9_code_p220 10 rfl
theorem dX9_code_20 : decode cX9_code 20 = .ok (.ireturn, 1) := dz_at dqX9_code_p220 11 rfl
theorem dX9_code_21 : decode cX9_code 21 = .ok (.iload 4, 2) := dz_at dqX9_code_p220 12 rfl
theorem dX9_code_23 : decode cX9_code 23 = .ok (.iload_n 3, 1) := dz_at dqX9_code_p220 13 rfl
set_option maxRecDepth 20000 in
theorem dqX9_code_p221 : dz_rn 24 (cX9_code.data.toList.drop 24) [(4, 3), (0, 13), (0, 12), (0, 4), (3, 0), (0, 4), (3, 0), (0, 3), (3, 1), (1, 0), (4, 10), (0, 4), (3, 0), (3, 0)] = some [(24, .if_icmp .lt 5, 3), (27, .iconst (-1), 1), (28, .ireturn, 1), (29, .aload_n 0, 1), (30, .getfield 58, 3), (33, .aload_n 0, 1), (34, .getfield 69, 3), (37, .iload_n 3, 1), (38, .invokevirtual 263, 3), (41, .iload 4, 2), (43, .ifCond .ge 13, 3), (46, .aload_n 0, 1), (47, .getfield 58, 3), (50, .getfield 266, 3)] := by decide +kernel
theorem dX9_code_24 : decode cX9_code 24 = .ok (.if_icmp .lt 5, 3) := dz_at dqX9_code_p221 0 rfl
theorem dX9_code_27 : decode cX9_code 27 = .ok (.iconst (-1), 1) := dz_at dqX9_code_p221 1 rfl
theorem dX9_code_28 : decode cX9_code 28 = .ok (.ireturn, 1) := dz_at dqX9_code_p221 2 rfl
theorem dX9_code_29 : decode cX9_code 29 = .ok (.aload_n 0, 1) := dz_at dqX9_code_p221 3 rfl
theorem dX9_code_30 : decode cX9_code 30 = .ok (.getfield 58, 3) := dz_at dqX9_code_p221 4 rfl
theorem dX9_code_33 : decode cX9_code 33 = .ok (.aload_n 0, 1) := dz_at dqX9_code_p221 5 rfl
theorem dX9_code_34 : decode cX9_code 34 = .ok (.getfield 69, 3) := dz_at dqX9_code_p221 6 rfl
theorem dX9_code_37 : decode cX9_code 37 = .ok (.iload_n 3, 1) := dz_at dqX9_code_p221 7 rfl
theorem dX9_code_38 : decode cX9_code 38 = .ok (.invokevirtual 263, 3) := dz_at dqX9_code_p221 8 rfl
theorem dX9_code_41 : decode cX9_code 41 = .ok (.iload 4, 2) := dz_at dqX9_code_p221 9 rfl
theorem dX9_code_43 : decode cX9_code 43 = .ok (.ifCond .ge 13, 3) := dz_at dqX9_code_p221 10 rfl
theorem dX9_code_46 : decode cX9_code 46 = .ok (.aload_n 0, 1) := dz_at dqX9_code_p221 11 rfl
theorem dX9_code_47 : decode cX9_code 47 = .ok (.getfield 58, 3) := dz_at dqX9_code_p221 12 rfl
theorem dX9_code_50 : decode cX9_code 50 = .ok (.getfield 266, 3) := dz_at dqX9_code_p221 13 rfl
set_option maxRecDepth 20000 in
theorem dqX9_code_p222 : dz_rn 53 (cX9_code.data.toList.drop 53) [(4, 0), (0, 4), (3, 0), (3, 0), (1, 0), (0, 10), (0, 12)] = some [(53, .goto 13, 3), (56, .aload_n 0, 1), (57, .getfield 58, 3), (60, .getfield 269, 3), (63, .iload 4, 2), (65, .iaload, 1), (66, .ireturn, 1)] := by decide +kernel
theorem dX9_code_53 : decode cX9_code 53 = .ok (.goto 13, 3) := dz_at dqX9_code_p222 0 rfl
theorem dX9_code_56 : decode cX9_code 56 = .ok (.aload_n 0, 1) := dz_at dqX9_code_p222 1 rfl
theorem dX9_code_57 : decode cX9_code 57 = .ok (.getfield 58, 3) := dz_at dqX9_code_p222 2 rfl
theorem dX9_code_60 : decode cX9_code 60 = .ok (.getfield 269, 3) := dz_at dqX9_code_p222 3 rfl
theorem dX9_code_63 : decode cX9_code 63 = .ok (.iload 4, 2) := dz_at dqX9_code_p222 4 rfl
theorem dX9_code_65 : decode cX9_code 65 = .ok (.iaload, 1) := dz_at dqX9_code_p222 5 rfl
theorem dX9_code_66 : decode cX9_code 66 = .ok (.ireturn, 1) := dz_at dqX9_code_p222 6 rfl
set_option maxRecDepth 20000 in
theorem ggX9_enough_X9_within : GoodIn wsX9_enough wsX9_within := goodIn_r _ [6] rfl (by decide +kernel)
set_option maxRecDepth 20000 in
theorem gX9_enough_X9_within : GoodIn wsX9_enough (va_wsS RX9 106 yX9_within wsX9_within) := goodIn_app (goodIn_of _ (by decide +kernel)) ggX9_enough_X9_within
set_option maxRecDepth 20000 in
theorem ggX9_enough_X8_between : GoodIn wsX9_enough wsX8_between := goodIn_r _ [11, 12, 34, 35] rfl (by decide +kernel)
set_option maxRecDepth 20000 in
theorem gX9_enough_X8_between : GoodIn wsX9_enough (wsV RX9 99 RX8 yX8_between wsX8_between) := goodIn_app (goodIn_of _ (by decide +kernel)) ggX9_enough_X8_between
set_option maxRecDepth 20000 in
theorem ggX9_enough_X5_cornersToUse : GoodIn wsX9_enough wsX5_cornersToUse := goodIn_r _ [17, 18, 19, 20, 21, 22, 36, 37, 38, 39, 40] rfl (by decide +kernel)
set_option maxRecDepth 20000 in
theorem gX9_enough_X5_cornersToUse : GoodIn wsX9_enough (wsV RX9 270 RX5 yX5_cornersToUse wsX5_cornersToUse) := goodIn_app (goodIn_of _ (by decide +kernel)) ggX9_enough_X5_cornersToUse
set_option maxRecDepth 20000 in
theorem dqX9_enough_p220 : dz_rn 0 (cX9_enough.data.toList.drop 0) [(0, 1), (0, 8), (2, 0), (3, 2), (4, 8), (2, 0), (0, 12), (0, 8), (0, 20), (0, 8), (0, 21), (0, 8), (1, 1), (1, 0)] = some [(0, .iload_n 1, 1), (1, .iconst 0, 1), (2, .bipush 48, 2), (4, .invokestatic 106, 3), (7, .ifCond .ne 6, 3), (10, .bipush (-3), 2), (12, .ireturn, 1), (13, .iconst 0, 1), (14, .istore_n 2, 1), (15, .iconst 0, 1), (16, .istore_n 3, 1), (17, .iconst 0, 1), (18, .istore 4, 2), (20, .iload 4, 2)] := by decide +kernel
theorem dX9_enough_0 : decode cX9_enough 0 = .ok (.iload_n 1, 1) := dz_at dqX9_enough_p220 0 rfl
theorem dX9_enough_1 : decode cX9_enough 1 = .ok (.iconst 0, 1) := dz_at dqX9_enough_p220 1 rfl
theorem dX9_enough_2 : decode cX9_enough 2 = .ok (.bipush 48, 2) := dz_at dqX9_enough_p220 2 rfl
theorem dX9_enough_4 : decode cX9_enough 4 = .ok (.invokestatic 106, 3) := dz_at dqX9_enough_p220 3 rfl
theorem dX9_enough_7 : decode cX9_enough 7 = .ok (.ifCond .ne 6, 3) := dz_at dqX9_enough_p220 4 rfl
theorem dX9_enough_10 : decode cX9_enough 10 = .ok (.bipush (-3), 2) := dz_at dqX9_enough_p220 5 rfl
theorem dX9_enough_12 : decode cX9_enough 12 = .ok (.ireturn, 1) := dz_at dqX9_enough_p220 6 rfl
theorem dX9_enough_13 : decode cX9_enough 13 = .ok (.iconst 0, 1) := dz_at dqX9_enough_p220 7 rfl
theorem dX9_enough_14 : decode cX9_enough 14 = .ok (.istore_n 2, 1) := dz_at dqX9_enough_p220 8 rfl
theorem dX9_enough_15 : decode cX9_enough 15 = .ok (.iconst 0, 1) := dz_at dqX9_enough_p220 9 rfl
theorem dX9_enough_16 : decode cX9_enough 16 = .ok (.istore_n 3, 1) := dz_at dqX9_enough_p220 10 rfl
theorem dX9_enough_17 : decode cX9_enough 17 = .ok (.iconst 0, 1) := dz_at dqX9_enough_p220 11 rfl
theorem dX9_enough_18 : decode cX9_enough 18 = .ok (.istore 4, 2) := dz_at dqX9_enough_p220 12 rfl
theorem dX9_enough_20 : decode cX9_enough 20 = .ok (.iload 4, 2) := dz_at dqX9_enough_p220 13 rfl
set_option maxRecDepth 20000 in
theorem dqX9_enough_p221 : dz_rn 22 (cX9_enough.data.toList.drop 22) [(2, 0), (4, 4), (0, 8), (1, 1), (1, 0), (2, 0), (4, 4), (0, 2), (0, 1), (4, 4), (0, 4), (3, 0), (0, 8), (1, 0)] = some [(22, .bipush 8, 2), (24, .if_icmp .ge 60, 3), (27, .iconst 0, 1), (28, .istore 5, 2), (30, .iload 5, 2), (32, .bipush 8, 2), (34, .if_icmp .ge 44, 3), (37, .iload_n 2, 1), (38, .iload_n 1, 1), (39, .if_icmp .ge 33, 3), (42, .aload_n 0, 1), (43, .getfield 12, 3), (46, .iconst 0, 1), (47, .iload 5, 2)] := by decide +kernel
theorem dX9_enough_22 : decode cX9_enough 22 = .ok (.bipush 8, 2) := dz_at dqX9_enough_p221 0 rfl
theorem dX9_enough_24 : decode cX9_enough 24 = .ok (.if_icmp .ge 60, 3) := dz_at dqX9_enough_p221 1 rfl
theorem dX9_enough_27 : decode cX9_enough 27 = .ok (.iconst 0, 1) := dz_at dqX9_enough_p221 2 rfl
theorem dX9_enough_28 : decode cX9_enough 28 = .ok (.istore 5, 2) := dz_at dqX9_enough_p221 3 rfl
theorem dX9_enough_30 : decode cX9_enough 30 = .ok (.iload 5, 2) := dz_at dqX9_enough_p221 4 rfl
theorem dX9_enough_32 : decode cX9_enough 32 = .ok (.bipush 8, 2) := dz_at dqX9_enough_p221 5 rfl
theorem dX9_enough_34 : decode cX9_enough 34 = .ok (.if_icmp .ge 44, 3) := dz_at dqX9_enough_p221 6 rfl
theorem dX9_enough_37 : decode cX9_enough 37 = .ok (.iload_n 2, 1) := dz_at dqX9_enough_p221 7 rfl
theorem dX9_enough_38 : decode cX9_enough 38 = .ok (.iload_n 1, 1) := dz_at dqX9_enough_p221 8 rfl
theorem dX9_enough_39 : decode cX9_enough 39 = .ok (.if_icmp .ge 33, 3) := dz_at dqX9_enough_p221 9 rfl
theorem dX9_enough_42 : decode cX9_enough 42 = .ok (.aload_n 0, 1) := dz_at dqX9_enough_p221 10 rfl
theorem dX9_enough_43 : decode cX9_enough 43 = .ok (.getfield 12, 3) := dz_at dqX9_enough_p221 11 rfl
theorem dX9_enough_46 : decode cX9_enough 46 = .ok (.iconst 0, 1) := dz_at dqX9_enough_p221 12 rfl
theorem dX9_enough_47 : decode cX9_enough 47 = .ok (.iload 5, 2) := dz_at dqX9_enough_p221 13 rfl
set_option maxRecDepth 20000 in
theorem dqX9_enough_p222 : dz_rn 49 (cX9_enough.data.toList.drop 49) [(3, 1), (1, 0), (4, 2), (0, 2), (0, 4), (3, 0), (1, 0), (3, 1), (0, 11), (0, 20), (5, 0), (5, 0), (4, 0), (5, 0)] = some [(49, .invokevirtual 99, 3), (52, .iload 4, 2), (54, .if_icmp .ne 18, 3), (57, .iload_n 2, 1), (58, .aload_n 0, 1), (59, .getfield 76, 3), (62, .iload 5, 2), (64, .invokevirtual 270, 3), (67, .iadd, 1), (68, .istore_n 2, 1), (69, .iinc 3 1, 3), (72, .iinc 5 1, 3), (75, .goto (-45), 3), (78, .iinc 4 1, 3)] := by decide +kernel
theorem dX9_enough_49 : decode cX9_enough 49 = .ok (.invokevirtual 99, 3) := dz_at dqX9_enough_p222 0 rfl
theorem dX9_enough_52 : decode cX9_enough 52 = .ok (.iload 4, 2) := dz_at dqX9_enough_p222 1 rfl
theorem dX9_enough_54 : decode cX9_enough 54 = .ok (.if_icmp .ne 18, 3) := dz_at dqX9_enough_p222 2 rfl
theorem dX9_enough_57 : decode cX9_enough 57 = .ok (.iload_n 2, 1) := dz_at dqX9_enough_p222 3 rfl
theorem dX9_enough_58 : decode cX9_enough 58 = .ok (.aload_n 0, 1) := dz_at dqX9_enough_p222 4 rfl
theorem dX9_enough_59 : decode cX9_enough 59 = .ok (.getfield 76, 3) := dz_at dqX9_enough_p222 5 rfl
theorem dX9_enough_62 : decode cX9_enough 62 = .ok (.iload 5, 2) := dz_at dqX9_enough_p222 6 rfl
theorem dX9_enough_64 : decode cX9_enough 64 = .ok (.invokevirtual 270, 3) := dz_at dqX9_enough_p222 7 rfl
theorem dX9_enough_67 : decode cX9_enough 67 = .ok (.iadd, 1) := dz_at dqX9_enough_p222 8 rfl
theorem dX9_enough_68 : decode cX9_enough 68 = .ok (.istore_n 2, 1) := dz_at dqX9_enough_p222 9 rfl
theorem dX9_enough_69 : decode cX9_enough 69 = .ok (.iinc 3 1, 3) := dz_at dqX9_enough_p222 10 rfl
theorem dX9_enough_72 : decode cX9_enough 72 = .ok (.iinc 5 1, 3) := dz_at dqX9_enough_p222 11 rfl
theorem dX9_enough_75 : decode cX9_enough 75 = .ok (.goto (-45), 3) := dz_at dqX9_enough_p222 12 rfl
theorem dX9_enough_78 : decode cX9_enough 78 = .ok (.iinc 4 1, 3) := dz_at dqX9_enough_p222 13 rfl
set_option maxRecDepth 20000 in
theorem dqX9_enough_p223 : dz_rn 81 (cX9_enough.data.toList.drop 81) [(4, 0), (0, 2), (0, 1), (4, 4), (0, 13), (4, 0), (0, 3), (0, 12)] = some [(81, .goto (-61), 3), (84, .iload_n 2, 1), (85, .iload_n 1, 1), (86, .if_icmp .ge 7, 3), (89, .iconst (-1), 1), (90, .goto 4, 3), (93, .iload_n 3, 1), (94, .ireturn, 1)] := by decide +kernel
theorem dX9_enough_81 : decode cX9_enough 81 = .ok (.goto (-61), 3) := dz_at dqX9_enough_p223 0 rfl
theorem dX9_enough_84 : decode cX9_enough 84 = .ok (.iload_n 2, 1) := dz_at dqX9_enough_p223 1 rfl
theorem dX9_enough_85 : decode cX9_enough 85 = .ok (.iload_n 1, 1) := dz_at dqX9_enough_p223 2 rfl
theorem dX9_enough_86 : decode cX9_enough 86 = .ok (.if_icmp .ge 7, 3) := dz_at dqX9_enough_p223 3 rfl
theorem dX9_enough_89 : decode cX9_enough 89 = .ok (.iconst (-1), 1) := dz_at dqX9_enough_p223 4 rfl
theorem dX9_enough_90 : decode cX9_enough 90 = .ok (.goto 4, 3) := dz_at dqX9_enough_p223 5 rfl
theorem dX9_enough_93 : decode cX9_enough 93 = .ok (.iload_n 3, 1) := dz_at dqX9_enough_p223 6 rfl
theorem dX9_enough_94 : decode cX9_enough 94 = .ok (.ireturn, 1) := dz_at dqX9_enough_p223 7 rfl
set_option maxRecDepth 20000 in
theorem ggX9_count_X9_filled : GoodIn wsX9_count wsX9_filled := goodIn_r _ [8] rfl (by decide +kernel)
set_option maxRecDepth 20000 in
theorem gX9_count_X9_filled : GoodIn wsX9_count (va_wsS RX9 273 yX9_filled wsX9_filled) := goodIn_app (goodIn_of _ (by decide +kernel)) ggX9_count_X9_filled
set_option maxRecDepth 20000 in
theorem ggX9_count_X1_allStrength : GoodIn wsX9_count wsX1_allStrength := goodIn_r _ [13, 14, 15, 27, 28, 29, 30, 31, 32, 33, 34, 35, 36, 37, 38, 39] rfl (by decide +kernel)
set_option maxRecDepth 20000 in
theorem gX9_count_X1_allStrength : GoodIn wsX9_count (wsV RX9 277 RX1 yX1_allStrength wsX1_allStrength) := goodIn_app (goodIn_of _ (by decide +kernel)) ggX9_count_X1_allStrength
theorem dX9_count_0 : decode cX9_count 0 = .ok (.iload_n 1, 1) := by decide +kernel
theorem dX9_count_1 : decode cX9_count 1 = .ok (.tableswitch 105 0 6 #[43, 51, 59, 70, 81, 89, 97], 43) := by decide +kernel
set_option maxRecDepth 20000 in
theorem dqX9_count_p220 : dz_rn 44 (cX9_count.data.toList.drop 44) [(0, 4), (3, 0), (3, 0), (0, 12), (0, 4), (3, 0), (3, 0), (0, 12), (0, 4), (3, 0), (3, 0), (3, 2), (0, 12), (0, 4)] = some [(44, .aload_n 0, 1), (45, .getfield 28, 3), (48, .getfield 153, 3), (51, .ireturn, 1), (52, .aload_n 0, 1), (53, .getfield 12, 3), (56, .getfield 91, 3), (59, .ireturn, 1), (60, .aload_n 0, 1), (61, .getfield 28, 3), (64, .getfield 131, 3), (67, .invokestatic 273, 3), (70, .ireturn, 1), (71, .aload_n 0, 1)] := by decide +kernel
theorem dX9_count_44 : decode cX9_count 44 = .ok (.aload_n 0, 1) := dz_at dqX9_count_p220 0 rfl
theorem dX9_count_45 : decode cX9_count 45 = .ok (.getfield 28, 3) := dz_at dqX9_count_p220 1 rfl
theorem dX9_count_48 : decode cX9_count 48 = .ok (.getfield 153, 3) := dz_at dqX9_count_p220 2 rfl
theorem dX9_count_51 : decode cX9_count 51 = .ok (.ireturn, 1) := dz_at dqX9_count_p220 3 rfl
theorem dX9_count_52 : decode cX9_count 52 = .ok (.aload_n 0, 1) := dz_at dqX9_count_p220 4 rfl
theorem dX9_count_53 : decode cX9_count 53 = .ok (.getfield 12, 3) := dz_at dqX9_count_p220 5 rfl
theorem dX9_count_56 : decode cX9_count 56 = .ok (.getfield 91, 3) := dz_at dqX9_count_p220 6 rfl
theorem dX9_count_59 : decode cX9_count 59 = .ok (.ireturn, 1) := dz_at dqX9_count_p220 7 rfl
theorem dX9_count_60 : decode cX9_count 60 = .ok (.aload_n 0, 1) := dz_at dqX9_count_p220 8 rfl
theorem dX9_count_61 : decode cX9_count 61 = .ok (.getfield 28, 3) := dz_at dqX9_count_p220 9 rfl
theorem dX9_count_64 : decode cX9_count 64 = .ok (.getfield 131, 3) := dz_at dqX9_count_p220 10 rfl
theorem dX9_count_67 : decode cX9_count 67 = .ok (.invokestatic 273, 3) := dz_at dqX9_count_p220 11 rfl
theorem dX9_count_70 : decode cX9_count 70 = .ok (.ireturn, 1) := dz_at dqX9_count_p220 12 rfl
theorem dX9_count_71 : decode cX9_count 71 = .ok (.aload_n 0, 1) := dz_at dqX9_count_p220 13 rfl
set_option maxRecDepth 20000 in
theorem dqX9_count_p221 : dz_rn 72 (cX9_count.data.toList.drop 72) [(3, 0), (3, 0), (3, 2), (0, 12), (0, 4), (3, 0), (3, 1), (0, 12), (0, 4), (3, 0), (3, 0), (0, 12), (0, 4), (3, 0)] = some [(72, .getfield 28, 3), (75, .getfield 144, 3), (78, .invokestatic 273, 3), (81, .ireturn, 1), (82, .aload_n 0, 1), (83, .getfield 28, 3), (86, .invokevirtual 277, 3), (89, .ireturn, 1), (90, .aload_n 0, 1), (91, .getfield 35, 3), (94, .getfield 163, 3), (97, .ireturn, 1), (98, .aload_n 0, 1), (99, .getfield 76, 3)] := by decide +kernel
theorem dX9_count_72 : decode cX9_count 72 = .ok (.getfield 28, 3) := dz_at dqX9_count_p221 0 rfl
theorem dX9_count_75 : decode cX9_count 75 = .ok (.getfield 144, 3) := dz_at dqX9_count_p221 1 rfl
theorem dX9_count_78 : decode cX9_count 78 = .ok (.invokestatic 273, 3) := dz_at dqX9_count_p221 2 rfl
theorem dX9_count_81 : decode cX9_count 81 = .ok (.ireturn, 1) := dz_at dqX9_count_p221 3 rfl
theorem dX9_count_82 : decode cX9_count 82 = .ok (.aload_n 0, 1) := dz_at dqX9_count_p221 4 rfl
theorem dX9_count_83 : decode cX9_count 83 = .ok (.getfield 28, 3) := dz_at dqX9_count_p221 5 rfl
theorem dX9_count_86 : decode cX9_count 86 = .ok (.invokevirtual 277, 3) := dz_at dqX9_count_p221 6 rfl
theorem dX9_count_89 : decode cX9_count 89 = .ok (.ireturn, 1) := dz_at dqX9_count_p221 7 rfl
theorem dX9_count_90 : decode cX9_count 90 = .ok (.aload_n 0, 1) := dz_at dqX9_count_p221 8 rfl
theorem dX9_count_91 : decode cX9_count 91 = .ok (.getfield 35, 3) := dz_at dqX9_count_p221 9 rfl
theorem dX9_count_94 : decode cX9_count 94 = .ok (.getfield 163, 3) := dz_at dqX9_count_p221 10 rfl
theorem dX9_count_97 : decode cX9_count 97 = .ok (.ireturn, 1) := dz_at dqX9_count_p221 11 rfl
theorem dX9_count_98 : decode cX9_count 98 = .ok (.aload_n 0, 1) := dz_at dqX9_count_p221 12 rfl
theorem dX9_count_99 : decode cX9_count 99 = .ok (.getfield 76, 3) := dz_at dqX9_count_p221 13 rfl
set_option maxRecDepth 20000 in
theorem dqX9_count_p222 : dz_rn 102 (cX9_count.data.toList.drop 102) [(3, 0), (0, 12), (2, 0), (0, 12)] = some [(102, .getfield 174, 3), (105, .ireturn, 1), (106, .bipush (-3), 2), (108, .ireturn, 1)] := by decide +kernel
theorem dX9_count_102 : decode cX9_count 102 = .ok (.getfield 174, 3) := dz_at dqX9_count_p222 0 rfl
theorem dX9_count_105 : decode cX9_count 105 = .ok (.ireturn, 1) := dz_at dqX9_count_p222 1 rfl
theorem dX9_count_106 : decode cX9_count 106 = .ok (.bipush (-3), 2) := dz_at dqX9_count_p222 2 rfl
theorem dX9_count_108 : decode cX9_count 108 = .ok (.ireturn, 1) := dz_at dqX9_count_p222 3 rfl
set_option maxRecDepth 20000 in
theorem dqX9_commonDivisor_p220 : dz_rn 0 (cX9_commonDivisor.data.toList.drop 0) [(0, 0), (0, 1), (3, 2), (0, 20), (0, 0), (0, 1), (3, 2), (0, 21), (0, 8), (1, 1), (1, 0), (2, 0), (4, 4), (0, 3)] = some [(0, .iload_n 0, 1), (1, .iload_n 1, 1), (2, .invokestatic 280, 3), (5, .istore_n 2, 1), (6, .iload_n 0, 1), (7, .iload_n 1, 1), (8, .invokestatic 285, 3), (11, .istore_n 3, 1), (12, .iconst 0, 1), (13, .istore 4, 2), (15, .iload 4, 2), (17, .bipush 64, 2), (19, .if_icmp .ge 23, 3), (22, .iload_n 3, 1)] := by decide +kernel
theorem dX9_commonDivisor_0 : decode cX9_commonDivisor 0 = .ok (.iload_n 0, 1) := dz_at dqX9_commonDivisor_p220 0 rfl
theorem dX9_commonDivisor_1 : decode cX9_commonDivisor 1 = .ok (.iload_n 1, 1) := dz_at dqX9_commonDivisor_p220 1 rfl
theorem dX9_commonDivisor_2 : decode cX9_commonDivisor 2 = .ok (.invokestatic 280, 3) := dz_at dqX9_commonDivisor_p220 2 rfl
theorem dX9_commonDivisor_5 : decode cX9_commonDivisor 5 = .ok (.istore_n 2, 1) := dz_at dqX9_commonDivisor_p220 3 rfl
theorem dX9_commonDivisor_6 : decode cX9_commonDivisor 6 = .ok (.iload_n 0, 1) := dz_at dqX9_commonDivisor_p220 4 rfl
theorem dX9_commonDivisor_7 : decode cX9_commonDivisor 7 = .ok (.iload_n 1, 1) := dz_at dqX9_commonDivisor_p220 5 rfl
theorem dX9_commonDivisor_8 : decode cX9_commonDivisor 8 = .ok (.invokestatic 285, 3) := dz_at dqX9_commonDivisor_p220 6 rfl
theorem dX9_commonDivisor_11 : decode cX9_commonDivisor 11 = .ok (.istore_n 3, 1) := dz_at dqX9_commonDivisor_p220 7 rfl
theorem dX9_commonDivisor_12 : decode cX9_commonDivisor 12 = .ok (.iconst 0, 1) := dz_at dqX9_commonDivisor_p220 8 rfl
theorem dX9_commonDivisor_13 : decode cX9_commonDivisor 13 = .ok (.istore 4, 2) := dz_at dqX9_commonDivisor_p220 9 rfl
theorem dX9_commonDivisor_15 : decode cX9_commonDivisor 15 = .ok (.iload 4, 2) := dz_at dqX9_commonDivisor_p220 10 rfl
theorem dX9_commonDivisor_17 : decode cX9_commonDivisor 17 = .ok (.bipush 64, 2) := dz_at dqX9_commonDivisor_p220 11 rfl
theorem dX9_commonDivisor_19 : decode cX9_commonDivisor 19 = .ok (.if_icmp .ge 23, 3) := dz_at dqX9_commonDivisor_p220 12 rfl
theorem dX9_commonDivisor_22 : decode cX9_commonDivisor 22 = .ok (.iload_n 3, 1) := dz_at dqX9_commonDivisor_p220 13 rfl
set_option maxRecDepth 20000 in
theorem dqX9_commonDivisor_p221 : dz_rn 23 (cX9_commonDivisor.data.toList.drop 23) [(4, 12), (0, 2), (0, 3), (0, 30), (1, 1), (0, 3), (0, 20), (1, 0), (0, 21), (5, 0), (4, 0), (0, 2), (0, 12)] = some [(23, .ifCond .le 19, 3), (26, .iload_n 2, 1), (27, .iload_n 3, 1), (28, .irem, 1), (29, .istore 5, 2), (31, .iload_n 3, 1), (32, .istore_n 2, 1), (33, .iload 5, 2), (35, .istore_n 3, 1), (36, .iinc 4 1, 3), (39, .goto (-24), 3), (42, .iload_n 2, 1), (43, .ireturn, 1)] := by decide +kernel
theorem dX9_commonDivisor_23 : decode cX9_commonDivisor 23 = .ok (.ifCond .le 19, 3) := dz_at dqX9_commonDivisor_p221 0 rfl
theorem dX9_commonDivisor_26 : decode cX9_commonDivisor 26 = .ok (.iload_n 2, 1) := dz_at dqX9_commonDivisor_p221 1 rfl
theorem dX9_commonDivisor_27 : decode cX9_commonDivisor 27 = .ok (.iload_n 3, 1) := dz_at dqX9_commonDivisor_p221 2 rfl
theorem dX9_commonDivisor_28 : decode cX9_commonDivisor 28 = .ok (.irem, 1) := dz_at dqX9_commonDivisor_p221 3 rfl
theorem dX9_commonDivisor_29 : decode cX9_commonDivisor 29 = .ok (.istore 5, 2) := dz_at dqX9_commonDivisor_p221 4 rfl
theorem dX9_commonDivisor_31 : decode cX9_commonDivisor 31 = .ok (.iload_n 3, 1) := dz_at dqX9_commonDivisor_p221 5 rfl
theorem dX9_commonDivisor_32 : decode cX9_commonDivisor 32 = .ok (.istore_n 2, 1) := dz_at dqX9_commonDivisor_p221 6 rfl
theorem dX9_commonDivisor_33 : decode cX9_commonDivisor 33 = .ok (.iload 5, 2) := dz_at dqX9_commonDivisor_p221 7 rfl
theorem dX9_commonDivisor_35 : decode cX9_commonDivisor 35 = .ok (.istore_n 3, 1) := dz_at dqX9_commonDivisor_p221 8 rfl
theorem dX9_commonDivisor_36 : decode cX9_commonDivisor 36 = .ok (.iinc 4 1, 3) := dz_at dqX9_commonDivisor_p221 9 rfl
theorem dX9_commonDivisor_39 : decode cX9_commonDivisor 39 = .ok (.goto (-24), 3) := dz_at dqX9_commonDivisor_p221 10 rfl
theorem dX9_commonDivisor_42 : decode cX9_commonDivisor 42 = .ok (.iload_n 2, 1) := dz_at dqX9_commonDivisor_p221 11 rfl
theorem dX9_commonDivisor_43 : decode cX9_commonDivisor 43 = .ok (.ireturn, 1) := dz_at dqX9_commonDivisor_p221 12 rfl
set_option maxRecDepth 20000 in
theorem dqX9_filled_p220 : dz_rn 0 (cX9_filled.data.toList.drop 0) [(0, 8), (0, 19), (0, 4), (0, 49), (0, 6), (0, 44), (0, 21), (0, 8), (1, 1), (1, 0), (0, 3), (4, 4), (0, 6), (1, 0)] = some [(0, .iconst 0, 1), (1, .istore_n 1, 1), (2, .aload_n 0, 1), (3, .astore_n 2, 1), (4, .aload_n 2, 1), (5, .arraylength, 1), (6, .istore_n 3, 1), (7, .iconst 0, 1), (8, .istore 4, 2), (10, .iload 4, 2), (12, .iload_n 3, 1), (13, .if_icmp .ge 24, 3), (16, .aload_n 2, 1), (17, .iload 4, 2)] := by decide +kernel
theorem dX9_filled_0 : decode cX9_filled 0 = .ok (.iconst 0, 1) := dz_at dqX9_filled_p220 0 rfl
theorem dX9_filled_1 : decode cX9_filled 1 = .ok (.istore_n 1, 1) := dz_at dqX9_filled_p220 1 rfl
theorem dX9_filled_2 : decode cX9_filled 2 = .ok (.aload_n 0, 1) := dz_at dqX9_filled_p220 2 rfl
theorem dX9_filled_3 : decode cX9_filled 3 = .ok (.astore_n 2, 1) := dz_at dqX9_filled_p220 3 rfl
theorem dX9_filled_4 : decode cX9_filled 4 = .ok (.aload_n 2, 1) := dz_at dqX9_filled_p220 4 rfl
theorem dX9_filled_5 : decode cX9_filled 5 = .ok (.arraylength, 1) := dz_at dqX9_filled_p220 5 rfl
theorem dX9_filled_6 : decode cX9_filled 6 = .ok (.istore_n 3, 1) := dz_at dqX9_filled_p220 6 rfl
theorem dX9_filled_7 : decode cX9_filled 7 = .ok (.iconst 0, 1) := dz_at dqX9_filled_p220 7 rfl
theorem dX9_filled_8 : decode cX9_filled 8 = .ok (.istore 4, 2) := dz_at dqX9_filled_p220 8 rfl
theorem dX9_filled_10 : decode cX9_filled 10 = .ok (.iload 4, 2) := dz_at dqX9_filled_p220 9 rfl
theorem dX9_filled_12 : decode cX9_filled 12 = .ok (.iload_n 3, 1) := dz_at dqX9_filled_p220 10 rfl
theorem dX9_filled_13 : decode cX9_filled 13 = .ok (.if_icmp .ge 24, 3) := dz_at dqX9_filled_p220 11 rfl
theorem dX9_filled_16 : decode cX9_filled 16 = .ok (.aload_n 2, 1) := dz_at dqX9_filled_p220 12 rfl
theorem dX9_filled_17 : decode cX9_filled 17 = .ok (.iload 4, 2) := dz_at dqX9_filled_p220 13 rfl
set_option maxRecDepth 20000 in
theorem dqX9_filled_p221 : dz_rn 19 (cX9_filled.data.toList.drop 19) [(0, 10), (1, 1), (1, 0), (0, 13), (4, 1), (5, 0), (5, 0), (4, 0), (0, 1), (0, 12)] = some [(19, .iaload, 1), (20, .istore 5, 2), (22, .iload 5, 2), (24, .iconst (-1), 1), (25, .if_icmp .eq 6, 3), (28, .iinc 1 1, 3), (31, .iinc 4 1, 3), (34, .goto (-24), 3), (37, .iload_n 1, 1), (38, .ireturn, 1)] := by decide +kernel
theorem dX9_filled_19 : decode cX9_filled 19 = .ok (.iaload, 1) := dz_at dqX9_filled_p221 0 rfl
theorem dX9_filled_20 : decode cX9_filled 20 = .ok (.istore 5, 2) := dz_at dqX9_filled_p221 1 rfl
theorem dX9_filled_22 : decode cX9_filled 22 = .ok (.iload 5, 2) := dz_at dqX9_filled_p221 2 rfl
theorem dX9_filled_24 : decode cX9_filled 24 = .ok (.iconst (-1), 1) := dz_at dqX9_filled_p221 3 rfl
theorem dX9_filled_25 : decode cX9_filled 25 = .ok (.if_icmp .eq 6, 3) := dz_at dqX9_filled_p221 4 rfl
theorem dX9_filled_28 : decode cX9_filled 28 = .ok (.iinc 1 1, 3) := dz_at dqX9_filled_p221 5 rfl
theorem dX9_filled_31 : decode cX9_filled 31 = .ok (.iinc 4 1, 3) := dz_at dqX9_filled_p221 6 rfl
theorem dX9_filled_34 : decode cX9_filled 34 = .ok (.goto (-24), 3) := dz_at dqX9_filled_p221 7 rfl
theorem dX9_filled_37 : decode cX9_filled 37 = .ok (.iload_n 1, 1) := dz_at dqX9_filled_p221 8 rfl
theorem dX9_filled_38 : decode cX9_filled 38 = .ok (.ireturn, 1) := dz_at dqX9_filled_p221 9 rfl
set_option maxRecDepth 20000 in
theorem ggX9_barredByRoom_X1_standingIn : GoodIn wsX9_barredByRoom wsX1_standingIn := goodIn_r _ [7, 8, 25, 26, 27, 28, 29, 30, 31, 32, 33, 34, 35, 36, 37] rfl (by decide +kernel)
set_option maxRecDepth 20000 in
theorem gX9_barredByRoom_X1_standingIn : GoodIn wsX9_barredByRoom (wsV RX9 291 RX1 yX1_standingIn wsX1_standingIn) := goodIn_app (goodIn_of _ (by decide +kernel)) ggX9_barredByRoom_X1_standingIn
set_option maxRecDepth 20000 in
theorem dqX9_barredByRoom_p220 : dz_rn 0 (cX9_barredByRoom.data.toList.drop 0) [(0, 1), (2, 0), (0, 27), (0, 20), (0, 4), (3, 0), (3, 0), (0, 2), (0, 10), (0, 21), (0, 3), (0, 13), (4, 1), (0, 4)] = some [(0, .iload_n 1, 1), (1, .bipush 6, 2), (3, .idiv, 1), (4, .istore_n 2, 1), (5, .aload_n 0, 1), (6, .getfield 76, 3), (9, .getfield 288, 3), (12, .iload_n 2, 1), (13, .iaload, 1), (14, .istore_n 3, 1), (15, .iload_n 3, 1), (16, .iconst (-1), 1), (17, .if_icmp .eq 19, 3), (20, .aload_n 0, 1)] := by decide +kernel
theorem dX9_barredByRoom_0 : decode cX9_barredByRoom 0 = .ok (.iload_n 1, 1) := dz_at dqX9_barredByRoom_p220 0 rfl
theorem dX9_barredByRoom_1 : decode cX9_barredByRoom 1 = .ok (.bipush 6, 2) := dz_at dqX9_barredByRoom_p220 1 rfl
theorem dX9_barredByRoom_3 : decode cX9_barredByRoom 3 = .ok (.idiv, 1) := dz_at dqX9_barredByRoom_p220 2 rfl
theorem dX9_barredByRoom_4 : decode cX9_barredByRoom 4 = .ok (.istore_n 2, 1) := dz_at dqX9_barredByRoom_p220 3 rfl
theorem dX9_barredByRoom_5 : decode cX9_barredByRoom 5 = .ok (.aload_n 0, 1) := dz_at dqX9_barredByRoom_p220 4 rfl
theorem dX9_barredByRoom_6 : decode cX9_barredByRoom 6 = .ok (.getfield 76, 3) := dz_at dqX9_barredByRoom_p220 5 rfl
theorem dX9_barredByRoom_9 : decode cX9_barredByRoom 9 = .ok (.getfield 288, 3) := dz_at dqX9_barredByRoom_p220 6 rfl
theorem dX9_barredByRoom_12 : decode cX9_barredByRoom 12 = .ok (.iload_n 2, 1) := dz_at dqX9_barredByRoom_p220 7 rfl
theorem dX9_barredByRoom_13 : decode cX9_barredByRoom 13 = .ok (.iaload, 1) := dz_at dqX9_barredByRoom_p220 8 rfl
theorem dX9_barredByRoom_14 : decode cX9_barredByRoom 14 = .ok (.istore_n 3, 1) := dz_at dqX9_barredByRoom_p220 9 rfl
theorem dX9_barredByRoom_15 : decode cX9_barredByRoom 15 = .ok (.iload_n 3, 1) := dz_at dqX9_barredByRoom_p220 10 rfl
theorem dX9_barredByRoom_16 : decode cX9_barredByRoom 16 = .ok (.iconst (-1), 1) := dz_at dqX9_barredByRoom_p220 11 rfl
theorem dX9_barredByRoom_17 : decode cX9_barredByRoom 17 = .ok (.if_icmp .eq 19, 3) := dz_at dqX9_barredByRoom_p220 12 rfl
theorem dX9_barredByRoom_20 : decode cX9_barredByRoom 20 = .ok (.aload_n 0, 1) := dz_at dqX9_barredByRoom_p220 13 rfl
set_option maxRecDepth 20000 in
theorem dqX9_barredByRoom_p221 : dz_rn 21 (cX9_barredByRoom.data.toList.drop 21) [(3, 0), (0, 2), (3, 1), (0, 3), (4, 3), (0, 9), (4, 0), (0, 8), (0, 12)] = some [(21, .getfield 28, 3), (24, .iload_n 2, 1), (25, .invokevirtual 291, 3), (28, .iload_n 3, 1), (29, .if_icmp .lt 7, 3), (32, .iconst 1, 1), (33, .goto 4, 3), (36, .iconst 0, 1), (37, .ireturn, 1)] := by decide +kernel
theorem dX9_barredByRoom_21 : decode cX9_barredByRoom 21 = .ok (.getfield 28, 3) := dz_at dqX9_barredByRoom_p221 0 rfl
theorem dX9_barredByRoom_24 : decode cX9_barredByRoom 24 = .ok (.iload_n 2, 1) := dz_at dqX9_barredByRoom_p221 1 rfl
theorem dX9_barredByRoom_25 : decode cX9_barredByRoom 25 = .ok (.invokevirtual 291, 3) := dz_at dqX9_barredByRoom_p221 2 rfl
theorem dX9_barredByRoom_28 : decode cX9_barredByRoom 28 = .ok (.iload_n 3, 1) := dz_at dqX9_barredByRoom_p221 3 rfl
theorem dX9_barredByRoom_29 : decode cX9_barredByRoom 29 = .ok (.if_icmp .lt 7, 3) := dz_at dqX9_barredByRoom_p221 4 rfl
theorem dX9_barredByRoom_32 : decode cX9_barredByRoom 32 = .ok (.iconst 1, 1) := dz_at dqX9_barredByRoom_p221 5 rfl
theorem dX9_barredByRoom_33 : decode cX9_barredByRoom 33 = .ok (.goto 4, 3) := dz_at dqX9_barredByRoom_p221 6 rfl
theorem dX9_barredByRoom_36 : decode cX9_barredByRoom 36 = .ok (.iconst 0, 1) := dz_at dqX9_barredByRoom_p221 7 rfl
theorem dX9_barredByRoom_37 : decode cX9_barredByRoom 37 = .ok (.ireturn, 1) := dz_at dqX9_barredByRoom_p221 8 rfl
set_option maxRecDepth 20000 in
theorem dqX9_barredByAgain_p220 : dz_rn 0 (cX9_barredByAgain.data.toList.drop 0) [(0, 4), (3, 0), (3, 0), (0, 1), (0, 10), (0, 20), (0, 4), (3, 0), (3, 0), (0, 13), (4, 1), (0, 2), (0, 13), (4, 1)] = some [(0, .aload_n 0, 1), (1, .getfield 28, 3), (4, .getfield 150, 3), (7, .iload_n 1, 1), (8, .iaload, 1), (9, .istore_n 2, 1), (10, .aload_n 0, 1), (11, .getfield 76, 3), (14, .getfield 294, 3), (17, .iconst (-1), 1), (18, .if_icmp .eq 31, 3), (21, .iload_n 2, 1), (22, .iconst (-1), 1), (23, .if_icmp .eq 26, 3)] := by decide +kernel
theorem dX9_barredByAgain_0 : decode cX9_barredByAgain 0 = .ok (.aload_n 0, 1) := dz_at dqX9_barredByAgain_p220 0 rfl
theorem dX9_barredByAgain_1 : decode cX9_barredByAgain 1 = .ok (.getfield 28, 3) := dz_at dqX9_barredByAgain_p220 1 rfl
theorem dX9_barredByAgain_4 : decode cX9_barredByAgain 4 = .ok (.getfield 150, 3) := dz_at dqX9_barredByAgain_p220 2 rfl
theorem dX9_barredByAgain_7 : decode cX9_barredByAgain 7 = .ok (.iload_n 1, 1) := dz_at dqX9_barredByAgain_p220 3 rfl
theorem dX9_barredByAgain_8 : decode cX9_barredByAgain 8 = .ok (.iaload, 1) := dz_at dqX9_barredByAgain_p220 4 rfl
theorem dX9_barredByAgain_9 : decode cX9_barredByAgain 9 = .ok (.istore_n 2, 1) := dz_at dqX9_barredByAgain_p220 5 rfl
theorem dX9_barredByAgain_10 : decode cX9_barredByAgain 10 = .ok (.aload_n 0, 1) := dz_at dqX9_barredByAgain_p220 6 rfl
theorem dX9_barredByAgain_11 : decode cX9_barredByAgain 11 = .ok (.getfield 76, 3) := dz_at dqX9_barredByAgain_p220 7 rfl
theorem dX9_barredByAgain_14 : decode cX9_barredByAgain 14 = .ok (.getfield 294, 3) := dz_at dqX9_barredByAgain_p220 8 rfl
theorem dX9_barredByAgain_17 : decode cX9_barredByAgain 17 = .ok (.iconst (-1), 1) := dz_at dqX9_barredByAgain_p220 9 rfl
theorem dX9_barredByAgain_18 : decode cX9_barredByAgain 18 = .ok (.if_icmp .eq 31, 3) := dz_at dqX9_barredByAgain_p220 10 rfl
theorem dX9_barredByAgain_21 : decode cX9_barredByAgain 21 = .ok (.iload_n 2, 1) := dz_at dqX9_barredByAgain_p220 11 rfl
theorem dX9_barredByAgain_22 : decode cX9_barredByAgain 22 = .ok (.iconst (-1), 1) := dz_at dqX9_barredByAgain_p220 12 rfl
theorem dX9_barredByAgain_23 : decode cX9_barredByAgain 23 = .ok (.if_icmp .eq 26, 3) := dz_at dqX9_barredByAgain_p220 13 rfl
set_option maxRecDepth 20000 in
theorem dqX9_barredByAgain_p221 : dz_rn 26 (cX9_barredByAgain.data.toList.drop 26) [(0, 4), (3, 0), (3, 0), (0, 2), (0, 26), (0, 4), (3, 0), (3, 0), (4, 4), (0, 9), (4, 0), (0, 8), (0, 12)] = some [(26, .aload_n 0, 1), (27, .getfield 28, 3), (30, .getfield 153, 3), (33, .iload_n 2, 1), (34, .isub, 1), (35, .aload_n 0, 1), (36, .getfield 76, 3), (39, .getfield 294, 3), (42, .if_icmp .ge 7, 3), (45, .iconst 1, 1), (46, .goto 4, 3), (49, .iconst 0, 1), (50, .ireturn, 1)] := by decide +kernel
theorem dX9_barredByAgain_26 : decode cX9_barredByAgain 26 = .ok (.aload_n 0, 1) := dz_at dqX9_barredByAgain_p221 0 rfl
theorem dX9_barredByAgain_27 : decode cX9_barredByAgain 27 = .ok (.getfield 28, 3) := dz_at dqX9_barredByAgain_p221 1 rfl
theorem dX9_barredByAgain_30 : decode cX9_barredByAgain 30 = .ok (.getfield 153, 3) := dz_at dqX9_barredByAgain_p221 2 rfl
theorem dX9_barredByAgain_33 : decode cX9_barredByAgain 33 = .ok (.iload_n 2, 1) := dz_at dqX9_barredByAgain_p221 3 rfl
theorem dX9_barredByAgain_34 : decode cX9_barredByAgain 34 = .ok (.isub, 1) := dz_at dqX9_barredByAgain_p221 4 rfl
theorem dX9_barredByAgain_35 : decode cX9_barredByAgain 35 = .ok (.aload_n 0, 1) := dz_at dqX9_barredByAgain_p221 5 rfl
theorem dX9_barredByAgain_36 : decode cX9_barredByAgain 36 = .ok (.getfield 76, 3) := dz_at dqX9_barredByAgain_p221 6 rfl
theorem dX9_barredByAgain_39 : decode cX9_barredByAgain 39 = .ok (.getfield 294, 3) := dz_at dqX9_barredByAgain_p221 7 rfl
theorem dX9_barredByAgain_42 : decode cX9_barredByAgain 42 = .ok (.if_icmp .ge 7, 3) := dz_at dqX9_barredByAgain_p221 8 rfl
theorem dX9_barredByAgain_45 : decode cX9_barredByAgain 45 = .ok (.iconst 1, 1) := dz_at dqX9_barredByAgain_p221 9 rfl
theorem dX9_barredByAgain_46 : decode cX9_barredByAgain 46 = .ok (.goto 4, 3) := dz_at dqX9_barredByAgain_p221 10 rfl
theorem dX9_barredByAgain_49 : decode cX9_barredByAgain 49 = .ok (.iconst 0, 1) := dz_at dqX9_barredByAgain_p221 11 rfl
theorem dX9_barredByAgain_50 : decode cX9_barredByAgain 50 = .ok (.ireturn, 1) := dz_at dqX9_barredByAgain_p221 12 rfl
set_option maxRecDepth 20000 in
theorem ggX9_barredByApart_X9_tooLike : GoodIn wsX9_barredByApart wsX9_tooLike := goodIn_r _ [7, 8, 1, 9, 10, 11, 12, 13, 14, 15, 16, 17, 18, 19, 20, 21, 22, 23, 24, 25, 26, 27, 28, 29, 30, 31, 32, 33, 34, 35, 36, 37, 51] rfl (by decide +kernel)
set_option maxRecDepth 20000 in
theorem gX9_barredByApart_X9_tooLike : GoodIn wsX9_barredByApart (wsV RX9 300 RX9 yX9_tooLike wsX9_tooLike) := goodIn_app (goodIn_of _ (by decide +kernel)) ggX9_barredByApart_X9_tooLike
set_option maxRecDepth 20000 in
theorem dqX9_barredByApart_p220 : dz_rn 0 (cX9_barredByApart.data.toList.drop 0) [(0, 4), (3, 0), (3, 0), (0, 13), (4, 2), (0, 8), (0, 12), (0, 2), (2, 0), (0, 30), (0, 21), (0, 3), (4, 12), (0, 4)] = some [(0, .aload_n 0, 1), (1, .getfield 76, 3), (4, .getfield 297, 3), (7, .iconst (-1), 1), (8, .if_icmp .ne 5, 3), (11, .iconst 0, 1), (12, .ireturn, 1), (13, .iload_n 2, 1), (14, .bipush 6, 2), (16, .irem, 1), (17, .istore_n 3, 1), (18, .iload_n 3, 1), (19, .ifCond .le 22, 3), (22, .aload_n 0, 1)] := by decide +kernel
theorem dX9_barredByApart_0 : decode cX9_barredByApart 0 = .ok (.aload_n 0, 1) := dz_at dqX9_barredByApart_p220 0 rfl
theorem dX9_barredByApart_1 : decode cX9_barredByApart 1 = .ok (.getfield 76, 3) := dz_at dqX9_barredByApart_p220 1 rfl
theorem dX9_barredByApart_4 : decode cX9_barredByApart 4 = .ok (.getfield 297, 3) := dz_at dqX9_barredByApart_p220 2 rfl
theorem dX9_barredByApart_7 : decode cX9_barredByApart 7 = .ok (.iconst (-1), 1) := dz_at dqX9_barredByApart_p220 3 rfl
theorem dX9_barredByApart_8 : decode cX9_barredByApart 8 = .ok (.if_icmp .ne 5, 3) := dz_at dqX9_barredByApart_p220 4 rfl
theorem dX9_barredByApart_11 : decode cX9_barredByApart 11 = .ok (.iconst 0, 1) := dz_at dqX9_barredByApart_p220 5 rfl
theorem dX9_barredByApart_12 : decode cX9_barredByApart 12 = .ok (.ireturn, 1) := dz_at dqX9_barredByApart_p220 6 rfl
theorem dX9_barredByApart_13 : decode cX9_barredByApart 13 = .ok (.iload_n 2, 1) := dz_at dqX9_barredByApart_p220 7 rfl
theorem dX9_barredByApart_14 : decode cX9_barredByApart 14 = .ok (.bipush 6, 2) := dz_at dqX9_barredByApart_p220 8 rfl
theorem dX9_barredByApart_16 : decode cX9_barredByApart 16 = .ok (.irem, 1) := dz_at dqX9_barredByApart_p220 9 rfl
theorem dX9_barredByApart_17 : decode cX9_barredByApart 17 = .ok (.istore_n 3, 1) := dz_at dqX9_barredByApart_p220 10 rfl
theorem dX9_barredByApart_18 : decode cX9_barredByApart 18 = .ok (.iload_n 3, 1) := dz_at dqX9_barredByApart_p220 11 rfl
theorem dX9_barredByApart_19 : decode cX9_barredByApart 19 = .ok (.ifCond .le 22, 3) := dz_at dqX9_barredByApart_p220 12 rfl
theorem dX9_barredByApart_22 : decode cX9_barredByApart 22 = .ok (.aload_n 0, 1) := dz_at dqX9_barredByApart_p220 13 rfl
set_option maxRecDepth 20000 in
theorem dqX9_barredByApart_p221 : dz_rn 23 (cX9_barredByApart.data.toList.drop 23) [(0, 1), (0, 4), (3, 0), (3, 0), (0, 2), (0, 9), (0, 26), (0, 10), (3, 1), (4, 8), (0, 3), (0, 17), (4, 4), (0, 4)] = some [(23, .iload_n 1, 1), (24, .aload_n 0, 1), (25, .getfield 28, 3), (28, .getfield 131, 3), (31, .iload_n 2, 1), (32, .iconst 1, 1), (33, .isub, 1), (34, .iaload, 1), (35, .invokevirtual 300, 3), (38, .ifCond .ne 27, 3), (41, .iload_n 3, 1), (42, .iconst 5, 1), (43, .if_icmp .ge 26, 3), (46, .aload_n 0, 1)] := by decide +kernel
theorem dX9_barredByApart_23 : decode cX9_barredByApart 23 = .ok (.iload_n 1, 1) := dz_at dqX9_barredByApart_p221 0 rfl
theorem dX9_barredByApart_24 : decode cX9_barredByApart 24 = .ok (.aload_n 0, 1) := dz_at dqX9_barredByApart_p221 1 rfl
theorem dX9_barredByApart_25 : decode cX9_barredByApart 25 = .ok (.getfield 28, 3) := dz_at dqX9_barredByApart_p221 2 rfl
theorem dX9_barredByApart_28 : decode cX9_barredByApart 28 = .ok (.getfield 131, 3) := dz_at dqX9_barredByApart_p221 3 rfl
theorem dX9_barredByApart_31 : decode cX9_barredByApart 31 = .ok (.iload_n 2, 1) := dz_at dqX9_barredByApart_p221 4 rfl
theorem dX9_barredByApart_32 : decode cX9_barredByApart 32 = .ok (.iconst 1, 1) := dz_at dqX9_barredByApart_p221 5 rfl
theorem dX9_barredByApart_33 : decode cX9_barredByApart 33 = .ok (.isub, 1) := dz_at dqX9_barredByApart_p221 6 rfl
theorem dX9_barredByApart_34 : decode cX9_barredByApart 34 = .ok (.iaload, 1) := dz_at dqX9_barredByApart_p221 7 rfl
theorem dX9_barredByApart_35 : decode cX9_barredByApart 35 = .ok (.invokevirtual 300, 3) := dz_at dqX9_barredByApart_p221 8 rfl
theorem dX9_barredByApart_38 : decode cX9_barredByApart 38 = .ok (.ifCond .ne 27, 3) := dz_at dqX9_barredByApart_p221 9 rfl
theorem dX9_barredByApart_41 : decode cX9_barredByApart 41 = .ok (.iload_n 3, 1) := dz_at dqX9_barredByApart_p221 10 rfl
theorem dX9_barredByApart_42 : decode cX9_barredByApart 42 = .ok (.iconst 5, 1) := dz_at dqX9_barredByApart_p221 11 rfl
theorem dX9_barredByApart_43 : decode cX9_barredByApart 43 = .ok (.if_icmp .ge 26, 3) := dz_at dqX9_barredByApart_p221 12 rfl
theorem dX9_barredByApart_46 : decode cX9_barredByApart 46 = .ok (.aload_n 0, 1) := dz_at dqX9_barredByApart_p221 13 rfl
set_option maxRecDepth 20000 in
theorem dqX9_barredByApart_p222 : dz_rn 47 (cX9_barredByApart.data.toList.drop 47) [(0, 1), (0, 4), (3, 0), (3, 0), (0, 2), (0, 9), (0, 11), (0, 10), (3, 1), (4, 7), (0, 9), (4, 0), (0, 8), (0, 12)] = some [(47, .iload_n 1, 1), (48, .aload_n 0, 1), (49, .getfield 28, 3), (52, .getfield 131, 3), (55, .iload_n 2, 1), (56, .iconst 1, 1), (57, .iadd, 1), (58, .iaload, 1), (59, .invokevirtual 300, 3), (62, .ifCond .eq 7, 3), (65, .iconst 1, 1), (66, .goto 4, 3), (69, .iconst 0, 1), (70, .ireturn, 1)] := by decide +kernel
theorem dX9_barredByApart_47 : decode cX9_barredByApart 47 = .ok (.iload_n 1, 1) := dz_at dqX9_barredByApart_p222 0 rfl
theorem dX9_barredByApart_48 : decode cX9_barredByApart 48 = .ok (.aload_n 0, 1) := dz_at dqX9_barredByApart_p222 1 rfl
theorem dX9_barredByApart_49 : decode cX9_barredByApart 49 = .ok (.getfield 28, 3) := dz_at dqX9_barredByApart_p222 2 rfl
theorem dX9_barredByApart_52 : decode cX9_barredByApart 52 = .ok (.getfield 131, 3) := dz_at dqX9_barredByApart_p222 3 rfl
theorem dX9_barredByApart_55 : decode cX9_barredByApart 55 = .ok (.iload_n 2, 1) := dz_at dqX9_barredByApart_p222 4 rfl
theorem dX9_barredByApart_56 : decode cX9_barredByApart 56 = .ok (.iconst 1, 1) := dz_at dqX9_barredByApart_p222 5 rfl
theorem dX9_barredByApart_57 : decode cX9_barredByApart 57 = .ok (.iadd, 1) := dz_at dqX9_barredByApart_p222 6 rfl
theorem dX9_barredByApart_58 : decode cX9_barredByApart 58 = .ok (.iaload, 1) := dz_at dqX9_barredByApart_p222 7 rfl
theorem dX9_barredByApart_59 : decode cX9_barredByApart 59 = .ok (.invokevirtual 300, 3) := dz_at dqX9_barredByApart_p222 8 rfl
theorem dX9_barredByApart_62 : decode cX9_barredByApart 62 = .ok (.ifCond .eq 7, 3) := dz_at dqX9_barredByApart_p222 9 rfl
theorem dX9_barredByApart_65 : decode cX9_barredByApart 65 = .ok (.iconst 1, 1) := dz_at dqX9_barredByApart_p222 10 rfl
theorem dX9_barredByApart_66 : decode cX9_barredByApart 66 = .ok (.goto 4, 3) := dz_at dqX9_barredByApart_p222 11 rfl
theorem dX9_barredByApart_69 : decode cX9_barredByApart 69 = .ok (.iconst 0, 1) := dz_at dqX9_barredByApart_p222 12 rfl
theorem dX9_barredByApart_70 : decode cX9_barredByApart 70 = .ok (.ireturn, 1) := dz_at dqX9_barredByApart_p222 13 rfl
set_option maxRecDepth 20000 in
theorem ggX9_tooLike_X2_shared : GoodIn wsX9_tooLike wsX2_shared := goodIn_r _ [7, 8, 9, 10, 11, 12, 13, 14, 15, 32] rfl (by decide +kernel)
set_option maxRecDepth 20000 in
theorem gX9_tooLike_X2_shared : GoodIn wsX9_tooLike (wsV RX9 113 RX2 yX2_shared wsX2_shared) := goodIn_app (goodIn_of _ (by decide +kernel)) ggX9_tooLike_X2_shared
set_option maxRecDepth 20000 in
theorem dqX9_tooLike_p220 : dz_rn 0 (cX9_tooLike.data.toList.drop 0) [(0, 2), (0, 13), (4, 1), (0, 4), (3, 0), (0, 1), (0, 2), (3, 1), (0, 4), (3, 0), (3, 0), (4, 6), (0, 9), (4, 0)] = some [(0, .iload_n 2, 1), (1, .iconst (-1), 1), (2, .if_icmp .eq 26, 3), (5, .aload_n 0, 1), (6, .getfield 19, 3), (9, .iload_n 1, 1), (10, .iload_n 2, 1), (11, .invokevirtual 113, 3), (14, .aload_n 0, 1), (15, .getfield 76, 3), (18, .getfield 297, 3), (21, .if_icmp .le 7, 3), (24, .iconst 1, 1), (25, .goto 4, 3)] := by decide +kernel
theorem dX9_tooLike_0 : decode cX9_tooLike 0 = .ok (.iload_n 2, 1) := dz_at dqX9_tooLike_p220 0 rfl
theorem dX9_tooLike_1 : decode cX9_tooLike 1 = .ok (.iconst (-1), 1) := dz_at dqX9_tooLike_p220 1 rfl
theorem dX9_tooLike_2 : decode cX9_tooLike 2 = .ok (.if_icmp .eq 26, 3) := dz_at dqX9_tooLike_p220 2 rfl
theorem dX9_tooLike_5 : decode cX9_tooLike 5 = .ok (.aload_n 0, 1) := dz_at dqX9_tooLike_p220 3 rfl
theorem dX9_tooLike_6 : decode cX9_tooLike 6 = .ok (.getfield 19, 3) := dz_at dqX9_tooLike_p220 4 rfl
theorem dX9_tooLike_9 : decode cX9_tooLike 9 = .ok (.iload_n 1, 1) := dz_at dqX9_tooLike_p220 5 rfl
theorem dX9_tooLike_10 : decode cX9_tooLike 10 = .ok (.iload_n 2, 1) := dz_at dqX9_tooLike_p220 6 rfl
theorem dX9_tooLike_11 : decode cX9_tooLike 11 = .ok (.invokevirtual 113, 3) := dz_at dqX9_tooLike_p220 7 rfl
theorem dX9_tooLike_14 : decode cX9_tooLike 14 = .ok (.aload_n 0, 1) := dz_at dqX9_tooLike_p220 8 rfl
theorem dX9_tooLike_15 : decode cX9_tooLike 15 = .ok (.getfield 76, 3) := dz_at dqX9_tooLike_p220 9 rfl
theorem dX9_tooLike_18 : decode cX9_tooLike 18 = .ok (.getfield 297, 3) := dz_at dqX9_tooLike_p220 10 rfl
theorem dX9_tooLike_21 : decode cX9_tooLike 21 = .ok (.if_icmp .le 7, 3) := dz_at dqX9_tooLike_p220 11 rfl
theorem dX9_tooLike_24 : decode cX9_tooLike 24 = .ok (.iconst 1, 1) := dz_at dqX9_tooLike_p220 12 rfl
theorem dX9_tooLike_25 : decode cX9_tooLike 25 = .ok (.goto 4, 3) := dz_at dqX9_tooLike_p220 13 rfl
set_option maxRecDepth 20000 in
theorem dqX9_tooLike_p221 : dz_rn 28 (cX9_tooLike.data.toList.drop 28) [(0, 8), (0, 12)] = some [(28, .iconst 0, 1), (29, .ireturn, 1)] := by decide +kernel
theorem dX9_tooLike_28 : decode cX9_tooLike 28 = .ok (.iconst 0, 1) := dz_at dqX9_tooLike_p221 0 rfl
theorem dX9_tooLike_29 : decode cX9_tooLike 29 = .ok (.ireturn, 1) := dz_at dqX9_tooLike_p221 1 rfl
set_option maxRecDepth 20000 in
theorem dqX9_isDue_p220 : dz_rn 0 (cX9_isDue.data.toList.drop 0) [(0, 4), (3, 0), (3, 0), (0, 1), (0, 10), (0, 20), (0, 4), (3, 0), (3, 0), (0, 1), (0, 10), (0, 21), (0, 2), (0, 13)] = some [(0, .aload_n 0, 1), (1, .getfield 76, 3), (4, .getfield 303, 3), (7, .iload_n 1, 1), (8, .iaload, 1), (9, .istore_n 2, 1), (10, .aload_n 0, 1), (11, .getfield 28, 3), (14, .getfield 306, 3), (17, .iload_n 1, 1), (18, .iaload, 1), (19, .istore_n 3, 1), (20, .iload_n 2, 1), (21, .iconst (-1), 1)] := by decide +kernel
theorem dX9_isDue_0 : decode cX9_isDue 0 = .ok (.aload_n 0, 1) := dz_at dqX9_isDue_p220 0 rfl
theorem dX9_isDue_1 : decode cX9_isDue 1 = .ok (.getfield 76, 3) := dz_at dqX9_isDue_p220 1 rfl
theorem dX9_isDue_4 : decode cX9_isDue 4 = .ok (.getfield 303, 3) := dz_at dqX9_isDue_p220 2 rfl
theorem dX9_isDue_7 : decode cX9_isDue 7 = .ok (.iload_n 1, 1) := dz_at dqX9_isDue_p220 3 rfl
theorem dX9_isDue_8 : decode cX9_isDue 8 = .ok (.iaload, 1) := dz_at dqX9_isDue_p220 4 rfl
theorem dX9_isDue_9 : decode cX9_isDue 9 = .ok (.istore_n 2, 1) := dz_at dqX9_isDue_p220 5 rfl
theorem dX9_isDue_10 : decode cX9_isDue 10 = .ok (.aload_n 0, 1) := dz_at dqX9_isDue_p220 6 rfl
theorem dX9_isDue_11 : decode cX9_isDue 11 = .ok (.getfield 28, 3) := dz_at dqX9_isDue_p220 7 rfl
theorem dX9_isDue_14 : decode cX9_isDue 14 = .ok (.getfield 306, 3) := dz_at dqX9_isDue_p220 8 rfl
theorem dX9_isDue_17 : decode cX9_isDue 17 = .ok (.iload_n 1, 1) := dz_at dqX9_isDue_p220 9 rfl
theorem dX9_isDue_18 : decode cX9_isDue 18 = .ok (.iaload, 1) := dz_at dqX9_isDue_p220 10 rfl
theorem dX9_isDue_19 : decode cX9_isDue 19 = .ok (.istore_n 3, 1) := dz_at dqX9_isDue_p220 11 rfl
theorem dX9_isDue_20 : decode cX9_isDue 20 = .ok (.iload_n 2, 1) := dz_at dqX9_isDue_p220 12 rfl
theorem dX9_isDue_21 : decode cX9_isDue 21 = .ok (.iconst (-1), 1) := dz_at dqX9_isDue_p220 13 rfl
set_option maxRecDepth 20000 in
theorem dqX9_isDue_p221 : dz_rn 22 (cX9_isDue.data.toList.drop 22) [(4, 1), (0, 3), (0, 13), (4, 1), (0, 4), (3, 0), (3, 0), (0, 3), (0, 26), (0, 2), (4, 3), (0, 9), (4, 0), (0, 8)] = some [(22, .if_icmp .eq 25, 3), (25, .iload_n 3, 1), (26, .iconst (-1), 1), (27, .if_icmp .eq 16, 3), (30, .aload_n 0, 1), (31, .getfield 28, 3), (34, .getfield 153, 3), (37, .iload_n 3, 1), (38, .isub, 1), (39, .iload_n 2, 1), (40, .if_icmp .lt 7, 3), (43, .iconst 1, 1), (44, .goto 4, 3), (47, .iconst 0, 1)] := by decide +kernel
theorem dX9_isDue_22 : decode cX9_isDue 22 = .ok (.if_icmp .eq 25, 3) := dz_at dqX9_isDue_p221 0 rfl
theorem dX9_isDue_25 : decode cX9_isDue 25 = .ok (.iload_n 3, 1) := dz_at dqX9_isDue_p221 1 rfl
theorem dX9_isDue_26 : decode cX9_isDue 26 = .ok (.iconst (-1), 1) := dz_at dqX9_isDue_p221 2 rfl
theorem dX9_isDue_27 : decode cX9_isDue 27 = .ok (.if_icmp .eq 16, 3) := dz_at dqX9_isDue_p221 3 rfl
theorem dX9_isDue_30 : decode cX9_isDue 30 = .ok (.aload_n 0, 1) := dz_at dqX9_isDue_p221 4 rfl
theorem dX9_isDue_31 : decode cX9_isDue 31 = .ok (.getfield 28, 3) := dz_at dqX9_isDue_p221 5 rfl
theorem dX9_isDue_34 : decode cX9_isDue 34 = .ok (.getfield 153, 3) := dz_at dqX9_isDue_p221 6 rfl
theorem dX9_isDue_37 : decode cX9_isDue 37 = .ok (.iload_n 3, 1) := dz_at dqX9_isDue_p221 7 rfl
theorem dX9_isDue_38 : decode cX9_isDue 38 = .ok (.isub, 1) := dz_at dqX9_isDue_p221 8 rfl
theorem dX9_isDue_39 : decode cX9_isDue 39 = .ok (.iload_n 2, 1) := dz_at dqX9_isDue_p221 9 rfl
theorem dX9_isDue_40 : decode cX9_isDue 40 = .ok (.if_icmp .lt 7, 3) := dz_at dqX9_isDue_p221 10 rfl
theorem dX9_isDue_43 : decode cX9_isDue 43 = .ok (.iconst 1, 1) := dz_at dqX9_isDue_p221 11 rfl
theorem dX9_isDue_44 : decode cX9_isDue 44 = .ok (.goto 4, 3) := dz_at dqX9_isDue_p221 12 rfl
theorem dX9_isDue_47 : decode cX9_isDue 47 = .ok (.iconst 0, 1) := dz_at dqX9_isDue_p221 13 rfl
theorem dX9_isDue_48 : decode cX9_isDue 48 = .ok (.ireturn, 1) := by decide +kernel
set_option maxRecDepth 20000 in
theorem ggX9_standsThroughDoor_X8_joined : GoodIn wsX9_standsThroughDoor wsX8_joined := goodIn_r _ [7, 8, 9, 10, 6, 11, 12, 37, 38] rfl (by decide +kernel)
set_option maxRecDepth 20000 in
theorem gX9_standsThroughDoor_X8_joined : GoodIn wsX9_standsThroughDoor (wsV RX9 87 RX8 yX8_joined wsX8_joined) := goodIn_app (goodIn_of _ (by decide +kernel)) ggX9_standsThroughDoor_X8_joined
set_option maxRecDepth 20000 in
theorem dqX9_standsThroughDoor_p220 : dz_rn 0 (cX9_standsThroughDoor.data.toList.drop 0) [(0, 4), (3, 0), (3, 0), (0, 2), (0, 10), (0, 21), (0, 3), (0, 13), (4, 1), (0, 3), (2, 0), (0, 30), (0, 1), (2, 0)] = some [(0, .aload_n 0, 1), (1, .getfield 28, 3), (4, .getfield 128, 3), (7, .iload_n 2, 1), (8, .iaload, 1), (9, .istore_n 3, 1), (10, .iload_n 3, 1), (11, .iconst (-1), 1), (12, .if_icmp .eq 36, 3), (15, .iload_n 3, 1), (16, .bipush 6, 2), (18, .irem, 1), (19, .iload_n 1, 1), (20, .bipush 6, 2)] := by decide +kernel
theorem dX9_standsThroughDoor_0 : decode cX9_standsThroughDoor 0 = .ok (.aload_n 0, 1) := dz_at dqX9_standsThroughDoor_p220 0 rfl
theorem dX9_standsThroughDoor_1 : decode cX9_standsThroughDoor 1 = .ok (.getfield 28, 3) := dz_at dqX9_standsThroughDoor_p220 1 rfl
theorem dX9_standsThroughDoor_4 : decode cX9_standsThroughDoor 4 = .ok (.getfield 128, 3) := dz_at dqX9_standsThroughDoor_p220 2 rfl
theorem dX9_standsThroughDoor_7 : decode cX9_standsThroughDoor 7 = .ok (.iload_n 2, 1) := dz_at dqX9_standsThroughDoor_p220 3 rfl
theorem dX9_standsThroughDoor_8 : decode cX9_standsThroughDoor 8 = .ok (.iaload, 1) := dz_at dqX9_standsThroughDoor_p220 4 rfl
theorem dX9_standsThroughDoor_9 : decode cX9_standsThroughDoor 9 = .ok (.istore_n 3, 1) := dz_at dqX9_standsThroughDoor_p220 5 rfl
theorem dX9_standsThroughDoor_10 : decode cX9_standsThroughDoor 10 = .ok (.iload_n 3, 1) := dz_at dqX9_standsThroughDoor_p220 6 rfl
theorem dX9_standsThroughDoor_11 : decode cX9_standsThroughDoor 11 = .ok (.iconst (-1), 1) := dz_at dqX9_standsThroughDoor_p220 7 rfl
theorem dX9_standsThroughDoor_12 : decode cX9_standsThroughDoor 12 = .ok (.if_icmp .eq 36, 3) := dz_at dqX9_standsThroughDoor_p220 8 rfl
theorem dX9_standsThroughDoor_15 : decode cX9_standsThroughDoor 15 = .ok (.iload_n 3, 1) := dz_at dqX9_standsThroughDoor_p220 9 rfl
theorem dX9_standsThroughDoor_16 : decode cX9_standsThroughDoor 16 = .ok (.bipush 6, 2) := dz_at dqX9_standsThroughDoor_p220 10 rfl
theorem dX9_standsThroughDoor_18 : decode cX9_standsThroughDoor 18 = .ok (.irem, 1) := dz_at dqX9_standsThroughDoor_p220 11 rfl
theorem dX9_standsThroughDoor_19 : decode cX9_standsThroughDoor 19 = .ok (.iload_n 1, 1) := dz_at dqX9_standsThroughDoor_p220 12 rfl
theorem dX9_standsThroughDoor_20 : decode cX9_standsThroughDoor 20 = .ok (.bipush 6, 2) := dz_at dqX9_standsThroughDoor_p220 13 rfl
set_option maxRecDepth 20000 in
theorem dqX9_standsThroughDoor_p221 : dz_rn 22 (cX9_standsThroughDoor.data.toList.drop 22) [(0, 30), (4, 2), (0, 4), (3, 0), (0, 3), (2, 0), (0, 27), (0, 1), (2, 0), (0, 27), (3, 1), (4, 7), (0, 9), (4, 0)] = some [(22, .irem, 1), (23, .if_icmp .ne 25, 3), (26, .aload_n 0, 1), (27, .getfield 12, 3), (30, .iload_n 3, 1), (31, .bipush 6, 2), (33, .idiv, 1), (34, .iload_n 1, 1), (35, .bipush 6, 2), (37, .idiv, 1), (38, .invokevirtual 87, 3), (41, .ifCond .eq 7, 3), (44, .iconst 1, 1), (45, .goto 4, 3)] := by decide +kernel
theorem dX9_standsThroughDoor_22 : decode cX9_standsThroughDoor 22 = .ok (.irem, 1) := dz_at dqX9_standsThroughDoor_p221 0 rfl
theorem dX9_standsThroughDoor_23 : decode cX9_standsThroughDoor 23 = .ok (.if_icmp .ne 25, 3) := dz_at dqX9_standsThroughDoor_p221 1 rfl
theorem dX9_standsThroughDoor_26 : decode cX9_standsThroughDoor 26 = .ok (.aload_n 0, 1) := dz_at dqX9_standsThroughDoor_p221 2 rfl
theorem dX9_standsThroughDoor_27 : decode cX9_standsThroughDoor 27 = .ok (.getfield 12, 3) := dz_at dqX9_standsThroughDoor_p221 3 rfl
theorem dX9_standsThroughDoor_30 : decode cX9_standsThroughDoor 30 = .ok (.iload_n 3, 1) := dz_at dqX9_standsThroughDoor_p221 4 rfl
theorem dX9_standsThroughDoor_31 : decode cX9_standsThroughDoor 31 = .ok (.bipush 6, 2) := dz_at dqX9_standsThroughDoor_p221 5 rfl
theorem dX9_standsThroughDoor_33 : decode cX9_standsThroughDoor 33 = .ok (.idiv, 1) := dz_at dqX9_standsThroughDoor_p221 6 rfl
theorem dX9_standsThroughDoor_34 : decode cX9_standsThroughDoor 34 = .ok (.iload_n 1, 1) := dz_at dqX9_standsThroughDoor_p221 7 rfl
theorem dX9_standsThroughDoor_35 : decode cX9_standsThroughDoor 35 = .ok (.bipush 6, 2) := dz_at dqX9_standsThroughDoor_p221 8 rfl
theorem dX9_standsThroughDoor_37 : decode cX9_standsThroughDoor 37 = .ok (.idiv, 1) := dz_at dqX9_standsThroughDoor_p221 9 rfl
theorem dX9_standsThroughDoor_38 : decode cX9_standsThroughDoor 38 = .ok (.invokevirtual 87, 3) := dz_at dqX9_standsThroughDoor_p221 10 rfl
theorem dX9_standsThroughDoor_41 : decode cX9_standsThroughDoor 41 = .ok (.ifCond .eq 7, 3) := dz_at dqX9_standsThroughDoor_p221 11 rfl
theorem dX9_standsThroughDoor_44 : decode cX9_standsThroughDoor 44 = .ok (.iconst 1, 1) := dz_at dqX9_standsThroughDoor_p221 12 rfl
theorem dX9_standsThroughDoor_45 : decode cX9_standsThroughDoor 45 = .ok (.goto 4, 3) := dz_at dqX9_standsThroughDoor_p221 13 rfl
set_option maxRecDepth 20000 in
theorem dqX9_standsThroughDoor_p222 : dz_rn 48 (cX9_standsThroughDoor.data.toList.drop 48) [(0, 8), (0, 12)] = some [(48, .iconst 0, 1), (49, .ireturn, 1)] := by decide +kernel
theorem dX9_standsThroughDoor_48 : decode cX9_standsThroughDoor 48 = .ok (.iconst 0, 1) := dz_at dqX9_standsThroughDoor_p222 0 rfl
theorem dX9_standsThroughDoor_49 : decode cX9_standsThroughDoor 49 = .ok (.ireturn, 1) := dz_at dqX9_standsThroughDoor_p222 1 rfl
set_option maxRecDepth 20000 in
theorem ggX9_rowRefusal_X9_thingOf : GoodIn wsX9_rowRefusal wsX9_thingOf := goodIn_r _ [9, 10] rfl (by decide +kernel)
set_option maxRecDepth 20000 in
theorem gX9_rowRefusal_X9_thingOf : GoodIn wsX9_rowRefusal (va_wsS RX9 309 yX9_thingOf wsX9_thingOf) := goodIn_app (goodIn_of _ (by decide +kernel)) ggX9_rowRefusal_X9_thingOf
set_option maxRecDepth 20000 in
theorem ggX9_rowRefusal_X9_isThing : GoodIn wsX9_rowRefusal wsX9_isThing := goodIn_r _ [13, 14, 15, 8, 16] rfl (by decide +kernel)
set_option maxRecDepth 20000 in
theorem gX9_rowRefusal_X9_isThing : GoodIn wsX9_rowRefusal (va_wsS RX9 103 yX9_isThing wsX9_isThing) := goodIn_app (goodIn_of _ (by decide +kernel)) ggX9_rowRefusal_X9_isThing
set_option maxRecDepth 20000 in
theorem ggX9_rowRefusal_X9_within : GoodIn wsX9_rowRefusal wsX9_within := goodIn_r _ [16] rfl (by decide +kernel)
set_option maxRecDepth 20000 in
theorem gX9_rowRefusal_X9_within : GoodIn wsX9_rowRefusal (va_wsS RX9 106 yX9_within wsX9_within) := goodIn_app (goodIn_of _ (by decide +kernel)) ggX9_rowRefusal_X9_within
set_option maxRecDepth 20000 in
theorem dqX9_rowRefusal_p220 : dz_rn 0 (cX9_rowRefusal.data.toList.drop 0) [(0, 3), (2, 0), (3, 2), (1, 1), (0, 8), (1, 1), (1, 0), (1, 0), (4, 4), (0, 35), (1, 0), (3, 2), (3, 2), (4, 8)] = some [(0, .iload_n 3, 1), (1, .bipush 12, 2), (3, .invokestatic 285, 3), (6, .istore 7, 2), (8, .iconst 0, 1), (9, .istore 8, 2), (11, .iload 8, 2), (13, .iload 7, 2), (15, .if_icmp .ge 24, 3), (18, .lload_n 1, 1), (19, .iload 8, 2), (21, .invokestatic 309, 3), (24, .invokestatic 103, 3), (27, .ifCond .ne 6, 3)] := by decide +kernel
theorem dX9_rowRefusal_0 : decode cX9_rowRefusal 0 = .ok (.iload_n 3, 1) := dz_at dqX9_rowRefusal_p220 0 rfl
theorem dX9_rowRefusal_1 : decode cX9_rowRefusal 1 = .ok (.bipush 12, 2) := dz_at dqX9_rowRefusal_p220 1 rfl
theorem dX9_rowRefusal_3 : decode cX9_rowRefusal 3 = .ok (.invokestatic 285, 3) := dz_at dqX9_rowRefusal_p220 2 rfl
theorem dX9_rowRefusal_6 : decode cX9_rowRefusal 6 = .ok (.istore 7, 2) := dz_at dqX9_rowRefusal_p220 3 rfl
theorem dX9_rowRefusal_8 : decode cX9_rowRefusal 8 = .ok (.iconst 0, 1) := dz_at dqX9_rowRefusal_p220 4 rfl
theorem dX9_rowRefusal_9 : decode cX9_rowRefusal 9 = .ok (.istore 8, 2) := dz_at dqX9_rowRefusal_p220 5 rfl
theorem dX9_rowRefusal_11 : decode cX9_rowRefusal 11 = .ok (.iload 8, 2) := dz_at dqX9_rowRefusal_p220 6 rfl
theorem dX9_rowRefusal_13 : decode cX9_rowRefusal 13 = .ok (.iload 7, 2) := dz_at dqX9_rowRefusal_p220 7 rfl
theorem dX9_rowRefusal_15 : decode cX9_rowRefusal 15 = .ok (.if_icmp .ge 24, 3) := dz_at dqX9_rowRefusal_p220 8 rfl
theorem dX9_rowRefusal_18 : decode cX9_rowRefusal 18 = .ok (.lload_n 1, 1) := dz_at dqX9_rowRefusal_p220 9 rfl
theorem dX9_rowRefusal_19 : decode cX9_rowRefusal 19 = .ok (.iload 8, 2) := dz_at dqX9_rowRefusal_p220 10 rfl
theorem dX9_rowRefusal_21 : decode cX9_rowRefusal 21 = .ok (.invokestatic 309, 3) := dz_at dqX9_rowRefusal_p220 11 rfl
theorem dX9_rowRefusal_24 : decode cX9_rowRefusal 24 = .ok (.invokestatic 103, 3) := dz_at dqX9_rowRefusal_p220 12 rfl
theorem dX9_rowRefusal_27 : decode cX9_rowRefusal 27 = .ok (.ifCond .ne 6, 3) := dz_at dqX9_rowRefusal_p220 13 rfl
set_option maxRecDepth 20000 in
theorem dqX9_rowRefusal_p221 : dz_rn 30 (cX9_rowRefusal.data.toList.drop 30) [(2, 0), (0, 12), (5, 0), (4, 0), (0, 3), (1, 0), (1, 0), (3, 2), (4, 7), (0, 3), (0, 4), (3, 0), (0, 44), (4, 5)] = some [(30, .bipush (-2), 2), (32, .ireturn, 1), (33, .iinc 8 1, 3), (36, .goto (-25), 3), (39, .iload_n 3, 1), (40, .iload 5, 2), (42, .iload 6, 2), (44, .invokestatic 106, 3), (47, .ifCond .eq 18, 3), (50, .iload_n 3, 1), (51, .aload_n 0, 1), (52, .getfield 69, 3), (55, .arraylength, 1), (56, .if_icmp .gt 9, 3)] := by decide +kernel
theorem dX9_rowRefusal_30 : decode cX9_rowRefusal 30 = .ok (.bipush (-2), 2) := dz_at dqX9_rowRefusal_p221 0 rfl
theorem dX9_rowRefusal_32 : decode cX9_rowRefusal 32 = .ok (.ireturn, 1) := dz_at dqX9_rowRefusal_p221 1 rfl
theorem dX9_rowRefusal_33 : decode cX9_rowRefusal 33 = .ok (.iinc 8 1, 3) := dz_at dqX9_rowRefusal_p221 2 rfl
theorem dX9_rowRefusal_36 : decode cX9_rowRefusal 36 = .ok (.goto (-25), 3) := dz_at dqX9_rowRefusal_p221 3 rfl
theorem dX9_rowRefusal_39 : decode cX9_rowRefusal 39 = .ok (.iload_n 3, 1) := dz_at dqX9_rowRefusal_p221 4 rfl
theorem dX9_rowRefusal_40 : decode cX9_rowRefusal 40 = .ok (.iload 5, 2) := dz_at dqX9_rowRefusal_p221 5 rfl
theorem dX9_rowRefusal_42 : decode cX9_rowRefusal 42 = .ok (.iload 6, 2) := dz_at dqX9_rowRefusal_p221 6 rfl
theorem dX9_rowRefusal_44 : decode cX9_rowRefusal 44 = .ok (.invokestatic 106, 3) := dz_at dqX9_rowRefusal_p221 7 rfl
theorem dX9_rowRefusal_47 : decode cX9_rowRefusal 47 = .ok (.ifCond .eq 18, 3) := dz_at dqX9_rowRefusal_p221 8 rfl
theorem dX9_rowRefusal_50 : decode cX9_rowRefusal 50 = .ok (.iload_n 3, 1) := dz_at dqX9_rowRefusal_p221 9 rfl
theorem dX9_rowRefusal_51 : decode cX9_rowRefusal 51 = .ok (.aload_n 0, 1) := dz_at dqX9_rowRefusal_p221 10 rfl
theorem dX9_rowRefusal_52 : decode cX9_rowRefusal 52 = .ok (.getfield 69, 3) := dz_at dqX9_rowRefusal_p221 11 rfl
theorem dX9_rowRefusal_55 : decode cX9_rowRefusal 55 = .ok (.arraylength, 1) := dz_at dqX9_rowRefusal_p221 12 rfl
theorem dX9_rowRefusal_56 : decode cX9_rowRefusal 56 = .ok (.if_icmp .gt 9, 3) := dz_at dqX9_rowRefusal_p221 13 rfl
set_option maxRecDepth 20000 in
theorem dqX9_rowRefusal_p222 : dz_rn 59 (cX9_rowRefusal.data.toList.drop 59) [(1, 0), (0, 13), (4, 4), (2, 0), (0, 12), (0, 8), (1, 1), (0, 8), (1, 1), (1, 0), (0, 3), (4, 4), (0, 35), (1, 0)] = some [(59, .iload 4, 2), (61, .iconst (-1), 1), (62, .if_icmp .ge 6, 3), (65, .bipush (-3), 2), (67, .ireturn, 1), (68, .iconst 0, 1), (69, .istore 8, 2), (71, .iconst 0, 1), (72, .istore 9, 2), (74, .iload 9, 2), (76, .iload_n 3, 1), (77, .if_icmp .ge 49, 3), (80, .lload_n 1, 1), (81, .iload 9, 2)] := by decide +kernel
theorem dX9_rowRefusal_59 : decode cX9_rowRefusal 59 = .ok (.iload 4, 2) := dz_at dqX9_rowRefusal_p222 0 rfl
theorem dX9_rowRefusal_61 : decode cX9_rowRefusal 61 = .ok (.iconst (-1), 1) := dz_at dqX9_rowRefusal_p222 1 rfl
theorem dX9_rowRefusal_62 : decode cX9_rowRefusal 62 = .ok (.if_icmp .ge 6, 3) := dz_at dqX9_rowRefusal_p222 2 rfl
theorem dX9_rowRefusal_65 : decode cX9_rowRefusal 65 = .ok (.bipush (-3), 2) := dz_at dqX9_rowRefusal_p222 3 rfl
theorem dX9_rowRefusal_67 : decode cX9_rowRefusal 67 = .ok (.ireturn, 1) := dz_at dqX9_rowRefusal_p222 4 rfl
theorem dX9_rowRefusal_68 : decode cX9_rowRefusal 68 = .ok (.iconst 0, 1) := dz_at dqX9_rowRefusal_p222 5 rfl
theorem dX9_rowRefusal_69 : decode cX9_rowRefusal 69 = .ok (.istore 8, 2) := dz_at dqX9_rowRefusal_p222 6 rfl
theorem dX9_rowRefusal_71 : decode cX9_rowRefusal 71 = .ok (.iconst 0, 1) := dz_at dqX9_rowRefusal_p222 7 rfl
theorem dX9_rowRefusal_72 : decode cX9_rowRefusal 72 = .ok (.istore 9, 2) := dz_at dqX9_rowRefusal_p222 8 rfl
theorem dX9_rowRefusal_74 : decode cX9_rowRefusal 74 = .ok (.iload 9, 2) := dz_at dqX9_rowRefusal_p222 9 rfl
theorem dX9_rowRefusal_76 : decode cX9_rowRefusal 76 = .ok (.iload_n 3, 1) := dz_at dqX9_rowRefusal_p222 10 rfl
theorem dX9_rowRefusal_77 : decode cX9_rowRefusal 77 = .ok (.if_icmp .ge 49, 3) := dz_at dqX9_rowRefusal_p222 11 rfl
theorem dX9_rowRefusal_80 : decode cX9_rowRefusal 80 = .ok (.lload_n 1, 1) := dz_at dqX9_rowRefusal_p222 12 rfl
theorem dX9_rowRefusal_81 : decode cX9_rowRefusal 81 = .ok (.iload 9, 2) := dz_at dqX9_rowRefusal_p222 13 rfl
set_option maxRecDepth 20000 in
theorem dqX9_rowRefusal_p223 : dz_rn 83 (cX9_rowRefusal.data.toList.drop 83) [(3, 2), (1, 1), (1, 0), (1, 0), (0, 32), (0, 9), (0, 29), (0, 9), (4, 2), (2, 0), (0, 12), (1, 0), (0, 9), (1, 0)] = some [(83, .invokestatic 309, 3), (86, .istore 10, 2), (88, .iload 8, 2), (90, .iload 10, 2), (92, .ishr, 1), (93, .iconst 1, 1), (94, .iand, 1), (95, .iconst 1, 1), (96, .if_icmp .ne 6, 3), (99, .bipush (-3), 2), (101, .ireturn, 1), (102, .iload 8, 2), (104, .iconst 1, 1), (105, .iload 10, 2)] := by decide +kernel
theorem dX9_rowRefusal_83 : decode cX9_rowRefusal 83 = .ok (.invokestatic 309, 3) := dz_at dqX9_rowRefusal_p223 0 rfl
theorem dX9_rowRefusal_86 : decode cX9_rowRefusal 86 = .ok (.istore 10, 2) := dz_at dqX9_rowRefusal_p223 1 rfl
theorem dX9_rowRefusal_88 : decode cX9_rowRefusal 88 = .ok (.iload 8, 2) := dz_at dqX9_rowRefusal_p223 2 rfl
theorem dX9_rowRefusal_90 : decode cX9_rowRefusal 90 = .ok (.iload 10, 2) := dz_at dqX9_rowRefusal_p223 3 rfl
theorem dX9_rowRefusal_92 : decode cX9_rowRefusal 92 = .ok (.ishr, 1) := dz_at dqX9_rowRefusal_p223 4 rfl
theorem dX9_rowRefusal_93 : decode cX9_rowRefusal 93 = .ok (.iconst 1, 1) := dz_at dqX9_rowRefusal_p223 5 rfl
theorem dX9_rowRefusal_94 : decode cX9_rowRefusal 94 = .ok (.iand, 1) := dz_at dqX9_rowRefusal_p223 6 rfl
theorem dX9_rowRefusal_95 : decode cX9_rowRefusal 95 = .ok (.iconst 1, 1) := dz_at dqX9_rowRefusal_p223 7 rfl
theorem dX9_rowRefusal_96 : decode cX9_rowRefusal 96 = .ok (.if_icmp .ne 6, 3) := dz_at dqX9_rowRefusal_p223 8 rfl
theorem dX9_rowRefusal_99 : decode cX9_rowRefusal 99 = .ok (.bipush (-3), 2) := dz_at dqX9_rowRefusal_p223 9 rfl
theorem dX9_rowRefusal_101 : decode cX9_rowRefusal 101 = .ok (.ireturn, 1) := dz_at dqX9_rowRefusal_p223 10 rfl
theorem dX9_rowRefusal_102 : decode cX9_rowRefusal 102 = .ok (.iload 8, 2) := dz_at dqX9_rowRefusal_p223 11 rfl
theorem dX9_rowRefusal_104 : decode cX9_rowRefusal 104 = .ok (.iconst 1, 1) := dz_at dqX9_rowRefusal_p223 12 rfl
theorem dX9_rowRefusal_105 : decode cX9_rowRefusal 105 = .ok (.iload 10, 2) := dz_at dqX9_rowRefusal_p223 13 rfl
set_option maxRecDepth 20000 in
theorem dqX9_rowRefusal_p224 : dz_rn 107 (cX9_rowRefusal.data.toList.drop 107) [(0, 31), (0, 39), (1, 1), (0, 4), (3, 0), (1, 0), (1, 0), (0, 22), (5, 0), (4, 0), (0, 8), (0, 12)] = some [(107, .ishl, 1), (108, .ior, 1), (109, .istore 8, 2), (111, .aload_n 0, 1), (112, .getfield 69, 3), (115, .iload 9, 2), (117, .iload 10, 2), (119, .iastore, 1), (120, .iinc 9 1, 3), (123, .goto (-49), 3), (126, .iconst 0, 1), (127, .ireturn, 1)] := by decide +kernel
theorem dX9_rowRefusal_107 : decode cX9_rowRefusal 107 = .ok (.ishl, 1) := dz_at dqX9_rowRefusal_p224 0 rfl
theorem dX9_rowRefusal_108 : decode cX9_rowRefusal 108 = .ok (.ior, 1) := dz_at dqX9_rowRefusal_p224 1 rfl
theorem dX9_rowRefusal_109 : decode cX9_rowRefusal 109 = .ok (.istore 8, 2) := dz_at dqX9_rowRefusal_p224 2 rfl
theorem dX9_rowRefusal_111 : decode cX9_rowRefusal 111 = .ok (.aload_n 0, 1) := dz_at dqX9_rowRefusal_p224 3 rfl
theorem dX9_rowRefusal_112 : decode cX9_rowRefusal 112 = .ok (.getfield 69, 3) := dz_at dqX9_rowRefusal_p224 4 rfl
theorem dX9_rowRefusal_115 : decode cX9_rowRefusal 115 = .ok (.iload 9, 2) := dz_at dqX9_rowRefusal_p224 5 rfl
theorem dX9_rowRefusal_117 : decode cX9_rowRefusal 117 = .ok (.iload 10, 2) := dz_at dqX9_rowRefusal_p224 6 rfl
theorem dX9_rowRefusal_119 : decode cX9_rowRefusal 119 = .ok (.iastore, 1) := dz_at dqX9_rowRefusal_p224 7 rfl
theorem dX9_rowRefusal_120 : decode cX9_rowRefusal 120 = .ok (.iinc 9 1, 3) := dz_at dqX9_rowRefusal_p224 8 rfl
theorem dX9_rowRefusal_123 : decode cX9_rowRefusal 123 = .ok (.goto (-49), 3) := dz_at dqX9_rowRefusal_p224 9 rfl
theorem dX9_rowRefusal_126 : decode cX9_rowRefusal 126 = .ok (.iconst 0, 1) := dz_at dqX9_rowRefusal_p224 10 rfl
theorem dX9_rowRefusal_127 : decode cX9_rowRefusal 127 = .ok (.ireturn, 1) := dz_at dqX9_rowRefusal_p224 11 rfl
set_option maxRecDepth 20000 in
theorem dqX9_thingOf_p220 : dz_rn 0 (cX9_thingOf.data.toList.drop 0) [(0, 34), (0, 17), (0, 2), (0, 23), (0, 46), (3, 4), (0, 38)] = some [(0, .lload_n 0, 1), (1, .iconst 5, 1), (2, .iload_n 2, 1), (3, .imul, 1), (4, .lshr, 1), (5, .ldc2_w 313, 3), (8, .land, 1)] := by decide +kernel
theorem dX9_thingOf_0 : decode cX9_thingOf 0 = .ok (.lload_n 0, 1) := dz_at dqX9_thingOf_p220 0 rfl
theorem dX9_thingOf_1 : decode cX9_thingOf 1 = .ok (.iconst 5, 1) := dz_at dqX9_thingOf_p220 1 rfl
theorem dX9_thingOf_2 : decode cX9_thingOf 2 = .ok (.iload_n 2, 1) := dz_at dqX9_thingOf_p220 2 rfl
theorem dX9_thingOf_3 : decode cX9_thingOf 3 = .ok (.imul, 1) := dz_at dqX9_thingOf_p220 3 rfl
theorem dX9_thingOf_4 : decode cX9_thingOf 4 = .ok (.lshr, 1) := dz_at dqX9_thingOf_p220 4 rfl
theorem dX9_thingOf_5 : decode cX9_thingOf 5 = .ok (.ldc2_w 313, 3) := dz_at dqX9_thingOf_p220 5 rfl
theorem dX9_thingOf_8 : decode cX9_thingOf 8 = .ok (.land, 1) := dz_at dqX9_thingOf_p220 6 rfl
theorem dX9_thingOf_9 : decode cX9_thingOf 9 = .ok (.l2i, 1) := by decide +kernel
theorem dX9_thingOf_10 : decode cX9_thingOf 10 = .ok (.ireturn, 1) := by decide +kernel
def puF (a : Nat → Nat) : Nat → Option Nat := va_up (va_up (va_up (va_up (fun _ => none) 0 (some (a 34))) 1 (some (a 36))) 2 (some (a 38))) 3 (some (a 40))
def thF (row : Int64) (k : Int32) : Int32 := ((row >>> ((5 * k).toInt64 &&& 63)) &&& 31).toInt32
abbrev wsW (cI cZ cQ : ClassId) (a : Nat → Nat) (rb0 : Nat) (rb1 : Nat) (rb2 : Nat) (db0 : Nat) (db1 : Nat) (db2 : Nat) (few : Nat → Int32) (doo : Int32) : va_W := [((a 43), .inr (9, [.ref (a 0), .ref (a 2), .ref (a 4), .ref (a 14), .ref (a 16), .ref (a 23), .ref (a 28), .ref (a 33), .ref (a 42), .ref rb0, .ref db0])), ((a 0), .inr (8, [.ref (a 1), .int doo])), ((a 1), .inl (cI, 64, .inl few))]
abbrev wsP (cI cZ cQ : ClassId) (a : Nat → Nat) (rb0 : Nat) (rb1 : Nat) (rb2 : Nat) (db0 : Nat) (db1 : Nat) (db2 : Nat) (mar : Nat → Int32) : va_W := [((a 43), .inr (9, [.ref (a 0), .ref (a 2), .ref (a 4), .ref (a 14), .ref (a 16), .ref (a 23), .ref (a 28), .ref (a 33), .ref (a 42), .ref rb0, .ref db0])), ((a 2), .inr (2, [.ref (a 3)])), ((a 3), .inl (cI, 24, .inl mar))]
abbrev wsC (cI cZ cQ : ClassId) (a : Nat → Nat) (rb0 : Nat) (rb1 : Nat) (rb2 : Nat) (db0 : Nat) (db1 : Nat) (db2 : Nat) (top : Nat → Int32) (str : Nat → Int32) (gho : Nat → Int32) (ghs : Nat → Int32) (pto : Nat → Int32) (cro : Nat → Int32) (pla : Nat → Int32) (wal : Nat → Int32) (fal : Nat → Int32) (tel : Int32) (gai : Int32) (day : Int32) (mar : Nat → Int32) : va_W := [((a 43), .inr (9, [.ref (a 0), .ref (a 2), .ref (a 4), .ref (a 14), .ref (a 16), .ref (a 23), .ref (a 28), .ref (a 33), .ref (a 42), .ref rb0, .ref db0])), ((a 4), .inr (1, [.ref (a 2), .ref (a 5), .ref (a 6), .ref (a 7), .ref (a 8), .ref (a 9), .ref (a 10), .ref (a 11), .ref (a 12), .ref (a 13), .int tel, .int gai, .int day])), ((a 5), .inl (cI, 48, .inl top)), ((a 6), .inl (cI, 48, .inl str)), ((a 7), .inl (cI, 48, .inl gho)), ((a 8), .inl (cI, 48, .inl ghs)), ((a 9), .inl (cI, 48, .inl pto)), ((a 10), .inl (cI, 48, .inl cro)), ((a 11), .inl (cI, 24, .inl pla)), ((a 12), .inl (cI, 8, .inl wal)), ((a 13), .inl (cI, 11, .inl fal)), ((a 2), .inr (2, [.ref (a 3)])), ((a 3), .inl (cI, 24, .inl mar))]
abbrev wsCW (cI cZ cQ : ClassId) (a : Nat → Nat) (rb0 : Nat) (rb1 : Nat) (rb2 : Nat) (db0 : Nat) (db1 : Nat) (db2 : Nat) (top : Nat → Int32) (str : Nat → Int32) (gho : Nat → Int32) (ghs : Nat → Int32) (pto : Nat → Int32) (cro : Nat → Int32) (pla : Nat → Int32) (wal : Nat → Int32) (fal : Nat → Int32) (tel : Int32) (gai : Int32) (day : Int32) (mar : Nat → Int32) (few : Nat → Int32) (doo : Int32) : va_W := [((a 43), .inr (9, [.ref (a 0), .ref (a 2), .ref (a 4), .ref (a 14), .ref (a 16), .ref (a 23), .ref (a 28), .ref (a 33), .ref (a 42), .ref rb0, .ref db0])), ((a 4), .inr (1, [.ref (a 2), .ref (a 5), .ref (a 6), .ref (a 7), .ref (a 8), .ref (a 9), .ref (a 10), .ref (a 11), .ref (a 12), .ref (a 13), .int tel, .int gai, .int day])), ((a 5), .inl (cI, 48, .inl top)), ((a 6), .inl (cI, 48, .inl str)), ((a 7), .inl (cI, 48, .inl gho)), ((a 8), .inl (cI, 48, .inl ghs)), ((a 9), .inl (cI, 48, .inl pto)), ((a 10), .inl (cI, 48, .inl cro)), ((a 11), .inl (cI, 24, .inl pla)), ((a 12), .inl (cI, 8, .inl wal)), ((a 13), .inl (cI, 11, .inl fal)), ((a 2), .inr (2, [.ref (a 3)])), ((a 3), .inl (cI, 24, .inl mar)), ((a 0), .inr (8, [.ref (a 1), .int doo])), ((a 1), .inl (cI, 64, .inl few))]
abbrev wsT (cI cZ cQ : ClassId) (a : Nat → Nat) (rb0 : Nat) (rb1 : Nat) (rb2 : Nat) (db0 : Nat) (db1 : Nat) (db2 : Nat) (byt : Nat → Int32) (len : Int32) (tst : Int32) (ten : Int32) : va_W := [((a 43), .inr (9, [.ref (a 0), .ref (a 2), .ref (a 4), .ref (a 14), .ref (a 16), .ref (a 23), .ref (a 28), .ref (a 33), .ref (a 42), .ref rb0, .ref db0])), ((a 14), .inr (7, [.ref (a 15), .int len, .int tst, .int ten])), ((a 15), .inl (cI, 160, .inl byt))]
abbrev wsTD (cI cZ cQ : ClassId) (a : Nat → Nat) (rb0 : Nat) (rb1 : Nat) (rb2 : Nat) (db0 : Nat) (db1 : Nat) (db2 : Nat) (byt : Nat → Int32) (len : Int32) (tst : Int32) (ten : Int32) (dmos : Nat → Int32) (dwev : Nat → Int32) (daga : Int32) (dapa : Int32) (dlin : Int32) : va_W := [((a 43), .inr (9, [.ref (a 0), .ref (a 2), .ref (a 4), .ref (a 14), .ref (a 16), .ref (a 23), .ref (a 28), .ref (a 33), .ref (a 42), .ref rb0, .ref db0])), ((a 14), .inr (7, [.ref (a 15), .int len, .int tst, .int ten])), ((a 15), .inl (cI, 160, .inl byt)), (db0, .inr (5, [.ref db1, .ref db2, .int daga, .int dapa, .int dlin])), (db1, .inl (cI, 8, .inl dmos)), (db2, .inl (cI, 8, .inl dwev))]
abbrev wsTDR (cI cZ cQ : ClassId) (a : Nat → Nat) (rb0 : Nat) (rb1 : Nat) (rb2 : Nat) (db0 : Nat) (db1 : Nat) (db2 : Nat) (byt : Nat → Int32) (len : Int32) (tst : Int32) (ten : Int32) (dmos : Nat → Int32) (dwev : Nat → Int32) (daga : Int32) (dapa : Int32) (dlin : Int32) (mos : Nat → Int32) (wev : Nat → Int32) (aga : Int32) (apa : Int32) (lin : Int32) : va_W := [((a 43), .inr (9, [.ref (a 0), .ref (a 2), .ref (a 4), .ref (a 14), .ref (a 16), .ref (a 23), .ref (a 28), .ref (a 33), .ref (a 42), .ref rb0, .ref db0])), ((a 14), .inr (7, [.ref (a 15), .int len, .int tst, .int ten])), ((a 15), .inl (cI, 160, .inl byt)), (db0, .inr (5, [.ref db1, .ref db2, .int daga, .int dapa, .int dlin])), (db1, .inl (cI, 8, .inl dmos)), (db2, .inl (cI, 8, .inl dwev)), (rb0, .inr (5, [.ref rb1, .ref rb2, .int aga, .int apa, .int lin])), (rb1, .inl (cI, 8, .inl mos)), (rb2, .inl (cI, 8, .inl wev))]
abbrev wsCR (cI cZ cQ : ClassId) (a : Nat → Nat) (rb0 : Nat) (rb1 : Nat) (rb2 : Nat) (db0 : Nat) (db1 : Nat) (db2 : Nat) (top : Nat → Int32) (str : Nat → Int32) (gho : Nat → Int32) (ghs : Nat → Int32) (pto : Nat → Int32) (cro : Nat → Int32) (pla : Nat → Int32) (wal : Nat → Int32) (fal : Nat → Int32) (tel : Int32) (gai : Int32) (day : Int32) (mar : Nat → Int32) (mos : Nat → Int32) (wev : Nat → Int32) (aga : Int32) (apa : Int32) (lin : Int32) : va_W := [((a 43), .inr (9, [.ref (a 0), .ref (a 2), .ref (a 4), .ref (a 14), .ref (a 16), .ref (a 23), .ref (a 28), .ref (a 33), .ref (a 42), .ref rb0, .ref db0])), ((a 4), .inr (1, [.ref (a 2), .ref (a 5), .ref (a 6), .ref (a 7), .ref (a 8), .ref (a 9), .ref (a 10), .ref (a 11), .ref (a 12), .ref (a 13), .int tel, .int gai, .int day])), ((a 5), .inl (cI, 48, .inl top)), ((a 6), .inl (cI, 48, .inl str)), ((a 7), .inl (cI, 48, .inl gho)), ((a 8), .inl (cI, 48, .inl ghs)), ((a 9), .inl (cI, 48, .inl pto)), ((a 10), .inl (cI, 48, .inl cro)), ((a 11), .inl (cI, 24, .inl pla)), ((a 12), .inl (cI, 8, .inl wal)), ((a 13), .inl (cI, 11, .inl fal)), ((a 2), .inr (2, [.ref (a 3)])), ((a 3), .inl (cI, 24, .inl mar)), (rb0, .inr (5, [.ref rb1, .ref rb2, .int aga, .int apa, .int lin])), (rb1, .inl (cI, 8, .inl mos)), (rb2, .inl (cI, 8, .inl wev))]
abbrev wsPR (cI cZ cQ : ClassId) (a : Nat → Nat) (rb0 : Nat) (rb1 : Nat) (rb2 : Nat) (db0 : Nat) (db1 : Nat) (db2 : Nat) (mar : Nat → Int32) (mos : Nat → Int32) (wev : Nat → Int32) (aga : Int32) (apa : Int32) (lin : Int32) : va_W := [((a 43), .inr (9, [.ref (a 0), .ref (a 2), .ref (a 4), .ref (a 14), .ref (a 16), .ref (a 23), .ref (a 28), .ref (a 33), .ref (a 42), .ref rb0, .ref db0])), ((a 2), .inr (2, [.ref (a 3)])), ((a 3), .inl (cI, 24, .inl mar)), (rb0, .inr (5, [.ref rb1, .ref rb2, .int aga, .int apa, .int lin])), (rb1, .inl (cI, 8, .inl mos)), (rb2, .inl (cI, 8, .inl wev))]
abbrev wsPl (cI cZ cQ : ClassId) (a : Nat → Nat) (rb0 : Nat) (rb1 : Nat) (rb2 : Nat) (db0 : Nat) (db1 : Nat) (db2 : Nat) (min : Nat → Int32) (tri : Nat → Int32) (bes : Nat → Int32) (wkd : Nat → Int32) (cos : Nat → Int32) (rst : Nat → Int32) (bst : Int32) (top : Nat → Int32) (str : Nat → Int32) (gho : Nat → Int32) (ghs : Nat → Int32) (pto : Nat → Int32) (cro : Nat → Int32) (pla : Nat → Int32) (wal : Nat → Int32) (fal : Nat → Int32) (tel : Int32) (gai : Int32) (day : Int32) (mar : Nat → Int32) (few : Nat → Int32) (doo : Int32) : va_W := [((a 43), .inr (9, [.ref (a 0), .ref (a 2), .ref (a 4), .ref (a 14), .ref (a 16), .ref (a 23), .ref (a 28), .ref (a 33), .ref (a 42), .ref rb0, .ref db0])), ((a 16), .inr (3, [.ref (a 4), .ref (a 0), .ref (a 17), .ref (a 18), .ref (a 19), .ref (a 20), .ref (a 21), .ref (a 22), .int bst])), ((a 17), .inl (cI, 4, .inl min)), ((a 18), .inl (cI, 4, .inl tri)), ((a 19), .inl (cI, 4, .inl bes)), ((a 20), .inl (cI, 8, .inl wkd)), ((a 21), .inl (cI, 8, .inl cos)), ((a 22), .inl (cI, 128, .inl rst)), ((a 4), .inr (1, [.ref (a 2), .ref (a 5), .ref (a 6), .ref (a 7), .ref (a 8), .ref (a 9), .ref (a 10), .ref (a 11), .ref (a 12), .ref (a 13), .int tel, .int gai, .int day])), ((a 5), .inl (cI, 48, .inl top)), ((a 6), .inl (cI, 48, .inl str)), ((a 7), .inl (cI, 48, .inl gho)), ((a 8), .inl (cI, 48, .inl ghs)), ((a 9), .inl (cI, 48, .inl pto)), ((a 10), .inl (cI, 48, .inl cro)), ((a 11), .inl (cI, 24, .inl pla)), ((a 12), .inl (cI, 8, .inl wal)), ((a 13), .inl (cI, 11, .inl fal)), ((a 2), .inr (2, [.ref (a 3)])), ((a 3), .inl (cI, 24, .inl mar)), ((a 0), .inr (8, [.ref (a 1), .int doo])), ((a 1), .inl (cI, 64, .inl few))]
abbrev wsSp (cI cZ cQ : ClassId) (a : Nat → Nat) (rb0 : Nat) (rb1 : Nat) (rb2 : Nat) (db0 : Nat) (db1 : Nat) (db2 : Nat) (sor : Nat → Int32) (ord : Nat → Int32) (sha : Nat → Int32) (toc : Nat → Int32) (mar : Nat → Int32) (tol : Nat → Int32) : va_W := [((a 43), .inr (9, [.ref (a 0), .ref (a 2), .ref (a 4), .ref (a 14), .ref (a 16), .ref (a 23), .ref (a 28), .ref (a 33), .ref (a 42), .ref rb0, .ref db0])), ((a 23), .inr (6, [.ref (a 2), .ref (a 24), .ref (a 25), .ref (a 26), .ref (a 27)])), ((a 24), .inl (cI, 8, .inl sor)), ((a 25), .inl (cI, 8, .inl ord)), ((a 26), .inl (cI, 64, .inl sha)), ((a 27), .inl (cI, 2048, .inl toc)), ((a 2), .inr (2, [.ref (a 3)])), ((a 3), .inl (cI, 24, .inl mar)), ((a 42), .inl (cI, 8, .inl tol))]
abbrev wsCd (cI cZ cQ : ClassId) (a : Nat → Nat) (rb0 : Nat) (rb1 : Nat) (rb2 : Nat) (db0 : Nat) (db1 : Nat) (db2 : Nat) (ali : Nat → Int32) (thi : Nat → Int32) (ctr : Nat → Int32) (cbe : Nat → Int32) (har : Int32) (mar : Nat → Int32) (tol : Nat → Int32) : va_W := [((a 43), .inr (9, [.ref (a 0), .ref (a 2), .ref (a 4), .ref (a 14), .ref (a 16), .ref (a 23), .ref (a 28), .ref (a 33), .ref (a 42), .ref rb0, .ref db0])), ((a 28), .inr (0, [.ref (a 2), .ref (a 29), .ref (a 30), .ref (a 31), .ref (a 32), .int har])), ((a 29), .inl (cI, 100, .inl ali)), ((a 30), .inl (cI, 8, .inl thi)), ((a 31), .inl (cI, 6, .inl ctr)), ((a 32), .inl (cI, 6, .inl cbe)), ((a 2), .inr (2, [.ref (a 3)])), ((a 3), .inl (cI, 24, .inl mar)), ((a 42), .inl (cI, 8, .inl tol))]
abbrev wsTo (cI cZ cQ : ClassId) (a : Nat → Nat) (rb0 : Nat) (rb1 : Nat) (rb2 : Nat) (db0 : Nat) (db1 : Nat) (db2 : Nat) (tol : Nat → Int32) : va_W := [((a 43), .inr (9, [.ref (a 0), .ref (a 2), .ref (a 4), .ref (a 14), .ref (a 16), .ref (a 23), .ref (a 28), .ref (a 33), .ref (a 42), .ref rb0, .ref db0])), ((a 42), .inl (cI, 8, .inl tol))]
abbrev wsPu (cI cZ cQ : ClassId) (a : Nat → Nat) (rb0 : Nat) (rb1 : Nat) (rb2 : Nat) (db0 : Nat) (db1 : Nat) (db2 : Nat) (agr0 : Nat → Int32) (ans0 : Int32) (agr1 : Nat → Int32) (ans1 : Int32) (agr2 : Nat → Int32) (ans2 : Int32) (agr3 : Nat → Int32) (ans3 : Int32) : va_W := [((a 43), .inr (9, [.ref (a 0), .ref (a 2), .ref (a 4), .ref (a 14), .ref (a 16), .ref (a 23), .ref (a 28), .ref (a 33), .ref (a 42), .ref rb0, .ref db0])), ((a 33), .inl (cQ, 4, .inr (.inr (.inr (.inr (puF a)))))), ((a 34), .inr (4, [.ref (a 35), .int ans0])), ((a 35), .inl (cI, 81, .inl agr0)), ((a 36), .inr (4, [.ref (a 37), .int ans1])), ((a 37), .inl (cI, 81, .inl agr1)), ((a 38), .inr (4, [.ref (a 39), .int ans2])), ((a 39), .inl (cI, 81, .inl agr2)), ((a 40), .inr (4, [.ref (a 41), .int ans3])), ((a 41), .inl (cI, 81, .inl agr3))]
abbrev wsWR (cI cZ cQ : ClassId) (a : Nat → Nat) (rb0 : Nat) (rb1 : Nat) (rb2 : Nat) (db0 : Nat) (db1 : Nat) (db2 : Nat) (few : Nat → Int32) (doo : Int32) (mos : Nat → Int32) (wev : Nat → Int32) (aga : Int32) (apa : Int32) (lin : Int32) : va_W := [((a 43), .inr (9, [.ref (a 0), .ref (a 2), .ref (a 4), .ref (a 14), .ref (a 16), .ref (a 23), .ref (a 28), .ref (a 33), .ref (a 42), .ref rb0, .ref db0])), ((a 0), .inr (8, [.ref (a 1), .int doo])), ((a 1), .inl (cI, 64, .inl few)), (rb0, .inr (5, [.ref rb1, .ref rb2, .int aga, .int apa, .int lin])), (rb1, .inl (cI, 8, .inl mos)), (rb2, .inl (cI, 8, .inl wev))]
abbrev wsAl (cI cZ cQ : ClassId) (a : Nat → Nat) (rb0 : Nat) (rb1 : Nat) (rb2 : Nat) (db0 : Nat) (db1 : Nat) (db2 : Nat) (top : Nat → Int32) (str : Nat → Int32) (gho : Nat → Int32) (ghs : Nat → Int32) (pto : Nat → Int32) (cro : Nat → Int32) (pla : Nat → Int32) (wal : Nat → Int32) (fal : Nat → Int32) (tel : Int32) (gai : Int32) (day : Int32) (mar : Nat → Int32) (few : Nat → Int32) (doo : Int32) (byt : Nat → Int32) (len : Int32) (tst : Int32) (ten : Int32) (mos : Nat → Int32) (wev : Nat → Int32) (aga : Int32) (apa : Int32) (lin : Int32) : va_W := [((a 43), .inr (9, [.ref (a 0), .ref (a 2), .ref (a 4), .ref (a 14), .ref (a 16), .ref (a 23), .ref (a 28), .ref (a 33), .ref (a 42), .ref rb0, .ref db0])), ((a 4), .inr (1, [.ref (a 2), .ref (a 5), .ref (a 6), .ref (a 7), .ref (a 8), .ref (a 9), .ref (a 10), .ref (a 11), .ref (a 12), .ref (a 13), .int tel, .int gai, .int day])), ((a 5), .inl (cI, 48, .inl top)), ((a 6), .inl (cI, 48, .inl str)), ((a 7), .inl (cI, 48, .inl gho)), ((a 8), .inl (cI, 48, .inl ghs)), ((a 9), .inl (cI, 48, .inl pto)), ((a 10), .inl (cI, 48, .inl cro)), ((a 11), .inl (cI, 24, .inl pla)), ((a 12), .inl (cI, 8, .inl wal)), ((a 13), .inl (cI, 11, .inl fal)), ((a 2), .inr (2, [.ref (a 3)])), ((a 3), .inl (cI, 24, .inl mar)), ((a 0), .inr (8, [.ref (a 1), .int doo])), ((a 1), .inl (cI, 64, .inl few)), ((a 14), .inr (7, [.ref (a 15), .int len, .int tst, .int ten])), ((a 15), .inl (cI, 160, .inl byt)), (rb0, .inr (5, [.ref rb1, .ref rb2, .int aga, .int apa, .int lin])), (rb1, .inl (cI, 8, .inl mos)), (rb2, .inl (cI, 8, .inl wev))]
set_option maxHeartbeats 4000000 in
set_option maxRecDepth 100000 in
theorem k_X9_marks (l : Launch) (dC : Nat → ClassId) (dI : Nat → Nat → Nat) (cI cZ cQ : ClassId) (a : Nat → Nat) (rb0 : Nat) (rb1 : Nat) (rb2 : Nat) (db0 : Nat) (db1 : Nat) (db2 : Nat) (mar : Nat → Int32) (sz : Nat) (t : Int32) (mk : Int32) (r_mar : rg 24 (0) (255) mar) : KW l yX9_marks wsX9_marks { frames := 2, cells := 0, slots := 0, locals := 42 } (dC, dI) (TY cI cZ cQ) (wsP cI cZ cQ a rb0 rb1 rb2 db0 db1 db2 mar) [.ref (a 43), .int t, .int mk] sz 0 0 (fun (r : Int32) (u : US) => (spMarks mar t mk r (u.1 0)) ∧ (rg 24 (0) (255) (u.1 0))) (fun u : US => (wsP cI cZ cQ a rb0 rb1 rb2 db0 db1 db2 (u.1 0))) := by
  refine Met.ofW (cc := cX9_marks) (maxL := 4) (ret := (some .int)) (by decide) rfl ?_
  intro p e s m args below meth c s₁ B hml hv
  obtain ⟨rfl, hsz, hP, hK, hD0, hN⟩ := hv
  have hx := B.exec
  have hb := B.bytes
  have hr := B.returns
  have hts := atoms_spec (ws := wsX9_marks) B.pre
  have hown : s.vm.findClass RX9 = some m.cls := findClass_of_methodNamed B.named
  have hlocks := B.notSynchronized
  have lf19 := hts (.fieldLink RX9 19 "PalaceOfRooms" "pictures" "LPalaceOfRooms$Pictures;") (List.mem_cons_of_mem _ (List.mem_append_left _ (List.mem_append_left _ (List.mem_of_getElem? (i := 0) rfl))))
  have inX9 : ∀ w ∈ wsX90, w ∈ wsX9_marks := fun w h => List.mem_cons_of_mem _ (List.mem_append_left _ (List.mem_append_right _ h))
  have lf110 := hN.use (w := .fieldLinkNest "PalaceOfRooms" 110 "PalaceOfRooms$Pictures" "marksOf" "[I" "PalaceOfRooms") (List.mem_of_getElem? (i := 1) rfl) ([.ref (a 43), .int t, .int mk] : List Value).toArray
  have inX2 : ∀ w ∈ wsX20, w ∈ wsX9_marks := fun w h => List.mem_cons_of_mem _ (List.mem_append_right _ h)
  subst hsz
  have hD := hD0.self (sz := s.heap.size)
  generalize hAe : va_A (wsP cI cZ cQ a rb0 rb1 rb2 db0 db1 db2 mar) s.heap.size = A at hD ⊢
  have hA : ∀ q : Nat, s.heap.size ≤ q → A q := fun q h => by rw [← hAe]; exact Or.inr h
  have hS : va_S A s.heap s.heap [] := va_S.rf
  have hl := lv_entry ([.ref (a 43), .int t, .int mk]) (n := 4) (Nat.le_of_ble_eq_true rfl)
  rw [lg_entry_eq]
  generalize (lg_sl ([.ref (a 43), .int t, .int mk]) ++ List.replicate (4 - (lg_sl ([.ref (a 43), .int t, .int mk])).length) Slot.unset).toArray = ls at hl ⊢
  have hl : lv_has ls 4 [(0, .ref (a 43)), (1, .int t), (2, .int mk)] := hl
  refine lv_iload_n hx hb dX9_marks_0 rfl (lv_at hl 1 rfl) ?_
  refine rdS (As := [.int t]) (rest := []) ⟨hx, hb, hml, hown, hts⟩ (k_X9_isThing l dC dI cI cZ cQ t) (va_cwS 1 hts gX9_marks_X9_isThing rfl rfl rfl (by decide +kernel) ⟨Nat.le_of_ble_eq_true rfl, Nat.le_of_ble_eq_true rfl⟩) hP hK hN [] rfl rfl hl.1 rfl (Nat.le_of_ble_eq_true rfl) dX9_marks_1 ⟨Nat.le_of_ble_eq_true rfl, Nat.le_of_ble_eq_true rfl⟩ (fun r1 h2 => ?_)
  have h2 : ((((r1 = 1) ∧ (0 ≤ t.toInt) ∧ (t.toInt ≤ 23)) ∨ ((r1 = 0) ∧ (t.toInt < 0 ∨ 23 < t.toInt)))) := h2
  rcases h2 with (⟨rfl, h2_a0, h2_a1⟩ | ⟨rfl, h2_a0⟩)
  · refine lv_if_ne (tgt := 10) hx hb dX9_marks_4 (by decide) (fun _ => ?_) (fun c9 => absurd c9 (by decide))
    refine lv_iload_n hx hb dX9_marks_10 rfl (lv_at hl 2 rfl) ?_
    refine lv_iconst (v := 0) hx hb dX9_marks_11 (by decide) ?_
    refine lv_sipush (v := 255) hx hb dX9_marks_12 (by decide) ?_
    refine rdS (As := [.int mk, .int 0, .int 255]) (rest := []) ⟨hx, hb, hml, hown, hts⟩ (k_X9_within l dC dI cI cZ cQ mk (0 : Int32) (255 : Int32)) (va_cwS 3 hts gX9_marks_X9_within rfl rfl rfl (by decide +kernel) ⟨Nat.le_of_ble_eq_true rfl, Nat.le_of_ble_eq_true rfl⟩) hP hK hN [] rfl rfl hl.1 rfl (Nat.le_of_ble_eq_true rfl) dX9_marks_15 ⟨Nat.le_of_ble_eq_true rfl, Nat.le_of_ble_eq_true rfl⟩ (fun r3 h4 => ?_)
    have h4 : ((((r3 = 1) ∧ ((0) ≤ mk.toInt) ∧ (mk.toInt ≤ (255))) ∨ ((r3 = 0) ∧ (mk.toInt < (0) ∨ (255) < mk.toInt)))) := h4
    rcases h4 with (⟨rfl, h4_a0, h4_a1⟩ | ⟨rfl, h4_a0⟩)
    · refine lv_if_ne (tgt := 24) hx hb dX9_marks_18 (by decide) (fun _ => ?_) (fun c9 => absurd c9 (by decide))
      refine lv_aload_n hx hb dX9_marks_24 rfl (lv_at hl 0 rfl) ?_
      refine va_get (D := (dC, dI)) (ci := 9) (v := .ref (a 2)) (C := RX9) (T := TX9) (N := 11) hx hb hts inX9 hown hK hP 0 rfl rfl 1 (by decide) lf19 (fun _ h9 => h9) rfl dX9_marks_25 ?_
      refine va_getN (D := (dC, dI)) (ci := 2) (v := .ref (a 3)) (C := RX2) (T := TX2) (N := 1) hx hb hts inX2 hown hK hP 1 rfl rfl 0 (by decide) lf110 (fun _ h9 => h9) rfl dX9_marks_28 ?_
      refine lv_iload_n hx hb dX9_marks_31 rfl (lv_at hl 1 rfl) ?_
      have b5 : vp_in t 24 := inC rfl (by omega) (by omega)
      refine va_iald hx hb hK hP 2 0 rfl rfl b5 dX9_marks_32 ?_
      have g6 : 0 ≤ (mar t.toNatClampNeg).toInt ∧ (mar t.toNatClampNeg).toInt ≤ 255 := rg_at r_mar b5
      refine lv_topi (fun x7 ex7 => ?_)
      have ix7 : x7.toInt = (mar t.toNatClampNeg).toInt := by rw [ex7]
      refine lv_istore_n (lv' := [(3, .int x7), (0, .ref (a 43)), (1, .int t), (2, .int mk)]) hx hb dX9_marks_33 rfl hl (by decide) rfl (fun ls hl => ?_)
      refine lv_aload_n hx hb dX9_marks_34 rfl (lv_at hl 1 rfl) ?_
      refine va_get (D := (dC, dI)) (ci := 9) (v := .ref (a 2)) (C := RX9) (T := TX9) (N := 11) hx hb hts inX9 hown hK hP 0 rfl rfl 1 (by decide) lf19 (fun _ h9 => h9) rfl dX9_marks_35 ?_
      refine va_getN (D := (dC, dI)) (ci := 2) (v := .ref (a 3)) (C := RX2) (T := TX2) (N := 1) hx hb hts inX2 hown hK hP 1 rfl rfl 0 (by decide) lf110 (fun _ h9 => h9) rfl dX9_marks_38 ?_
      refine lv_iload_n hx hb dX9_marks_41 rfl (lv_at hl 2 rfl) ?_
      refine lv_iload_n hx hb dX9_marks_42 rfl (lv_at hl 3 rfl) ?_
      have b8 : vp_in t 24 := inC rfl (by omega) (by omega)
      have g9 : rg 24 (0) (255) (upd mar t.toNatClampNeg mk) := rg_upd r_mar rfl (by omega) (by omega)
      refine va_iast hx hb hK hP hD hS 2 0 rfl rfl b8 dX9_marks_43 (fun H locs hP hD hS => ?_)
      obtain ⟨mar_u10, emar_u10⟩ : ∃ f : Nat → Int32, f = upd mar t.toNatClampNeg mk := ⟨_, rfl⟩
      have rmar_u10 : rg 24 (0) (255) mar_u10 := by rw [emar_u10]; exact g9
      have hP : va_P (dC, dI) vwCl (wsP cI cZ cQ a rb0 rb1 rb2 db0 db1 db2 mar_u10) H := by rw [emar_u10]; exact hP
      have hD : va_D A (wsP cI cZ cQ a rb0 rb1 rb2 db0 db1 db2 mar_u10) := by rw [emar_u10]; exact hD
      refine lv_iload_n hx hb dX9_marks_44 rfl (lv_at hl 0 rfl) ?_
      exact W.iret (v := x7) hx hb hr (fun tq ht hW => ⟨⟨x7, (uS [mar_u10] 0 (fun _ => 0)), rfl, ⟨(show spMarks mar t mk x7 mar_u10 from by (unfold spMarks; subst_vars; first | exact Or.inl (⟨by omega, rfl, rfl⟩) | exact Or.inr (Or.inl (⟨by omega, by omega, rfl, rfl⟩)) | exact Or.inr (Or.inr (⟨by omega, by omega, rfl, rfl⟩)))), rmar_u10⟩, by rw [ht]; exact hP, hD⟩, hS.F ht⟩) hS.2.2 dX9_marks_45
    · refine lv_if_ne (tgt := 24) hx hb dX9_marks_18 (by decide) (fun c9 => absurd (by decide) c9) (fun _ => ?_)
      refine lv_bipush (v := (-3)) hx hb dX9_marks_21 (by decide) ?_
      exact W.iret (v := (-3)) hx hb hr (fun tq ht hW => ⟨⟨(-3), (uS [mar] 0 (fun _ => 0)), rfl, ⟨(show spMarks mar t mk ((-3) : Int32) mar from by (try rw [show ((-3) : Int32).toInt = (-3) from (show ((-3) : Int32).toInt = (-3) from rfl)]); (unfold spMarks; subst_vars; first | exact Or.inl (⟨by omega, rfl, rfl⟩) | exact Or.inr (Or.inl (⟨by omega, by omega, rfl, rfl⟩)) | exact Or.inr (Or.inr (⟨by omega, by omega, rfl, rfl⟩)))), r_mar⟩, by rw [ht]; exact hP, hD⟩, hS.F ht⟩) hS.2.2 dX9_marks_23
  · refine lv_if_ne (tgt := 10) hx hb dX9_marks_4 (by decide) (fun c9 => absurd (by decide) c9) (fun _ => ?_)
    refine lv_bipush (v := (-2)) hx hb dX9_marks_7 (by decide) ?_
    exact W.iret (v := (-2)) hx hb hr (fun tq ht hW => ⟨⟨(-2), (uS [mar] 0 (fun _ => 0)), rfl, ⟨(show spMarks mar t mk ((-2) : Int32) mar from by (try rw [show ((-2) : Int32).toInt = (-2) from (show ((-2) : Int32).toInt = (-2) from rfl)]); (unfold spMarks; subst_vars; first | exact Or.inl (⟨by omega, rfl, rfl⟩) | exact Or.inr (Or.inl (⟨by omega, by omega, rfl, rfl⟩)) | exact Or.inr (Or.inr (⟨by omega, by omega, rfl, rfl⟩)))), r_mar⟩, by rw [ht]; exact hP, hD⟩, hS.F ht⟩) hS.2.2 dX9_marks_9
set_option maxHeartbeats 4000000 in
set_option maxRecDepth 100000 in
theorem k_X9_like (l : Launch) (dC : Nat → ClassId) (dI : Nat → Nat → Nat) (cI cZ cQ : ClassId) (a : Nat → Nat) (rb0 : Nat) (rb1 : Nat) (rb2 : Nat) (db0 : Nat) (db1 : Nat) (db2 : Nat) (mar : Nat → Int32) (x : Int32) (y : Int32) (r_mar : rg 24 (0) (255) mar) : KR l yX9_like wsX9_like { frames := 2, cells := 0, slots := 0, locals := 42 } (dC, dI) (TY cI cZ cQ) (wsP cI cZ cQ a rb0 rb1 rb2 db0 db1 db2 mar) [.ref (a 43), .int x, .int y] (fun r : Int32 => (spLike mar x y r)) := by
  refine Met.ofW (cc := cX9_like) (maxL := 3) (ret := (some .int)) (by decide) rfl ?_
  intro p e s m args below meth c s₁ B hml hv
  obtain ⟨rfl, hP, hK, hN⟩ := hv
  have hx := B.exec
  have hb := B.bytes
  have hr := B.returns
  have hts := atoms_spec (ws := wsX9_like) B.pre
  have hown : s.vm.findClass RX9 = some m.cls := findClass_of_methodNamed B.named
  have hlocks := B.notSynchronized
  have lf19 := hts (.fieldLink RX9 19 "PalaceOfRooms" "pictures" "LPalaceOfRooms$Pictures;") (List.mem_cons_of_mem _ (List.mem_append_left _ (List.mem_append_left _ (List.mem_of_getElem? (i := 0) rfl))))
  have inX9 : ∀ w ∈ wsX90, w ∈ wsX9_like := fun w h => List.mem_cons_of_mem _ (List.mem_append_left _ (List.mem_append_right _ h))
  have hl := lv_entry ([.ref (a 43), .int x, .int y]) (n := 3) (Nat.le_of_ble_eq_true rfl)
  rw [lg_entry_eq]
  generalize (lg_sl ([.ref (a 43), .int x, .int y]) ++ List.replicate (3 - (lg_sl ([.ref (a 43), .int x, .int y])).length) Slot.unset).toArray = ls at hl ⊢
  have hl : lv_has ls 3 [(0, .ref (a 43)), (1, .int x), (2, .int y)] := hl
  refine lv_iload_n hx hb dX9_like_0 rfl (lv_at hl 1 rfl) ?_
  refine rdS (As := [.int x]) (rest := []) ⟨hx, hb, hml, hown, hts⟩ (k_X9_isThing l dC dI cI cZ cQ x) (va_cwS 1 hts gX9_like_X9_isThing rfl rfl rfl (by decide +kernel) ⟨Nat.le_of_ble_eq_true rfl, Nat.le_of_ble_eq_true rfl⟩) hP hK hN [] rfl rfl hl.1 rfl (Nat.le_of_ble_eq_true rfl) dX9_like_1 ⟨Nat.le_of_ble_eq_true rfl, Nat.le_of_ble_eq_true rfl⟩ (fun r1 h2 => ?_)
  have h2 : ((((r1 = 1) ∧ (0 ≤ x.toInt) ∧ (x.toInt ≤ 23)) ∨ ((r1 = 0) ∧ (x.toInt < 0 ∨ 23 < x.toInt)))) := h2
  rcases h2 with (⟨rfl, h2_a0, h2_a1⟩ | ⟨rfl, h2_a0⟩)
  · refine lv_if_eq (tgt := 14) hx hb dX9_like_4 (by decide) (fun c9 => absurd c9 (by decide)) (fun _ => ?_)
    refine lv_iload_n hx hb dX9_like_7 rfl (lv_at hl 2 rfl) ?_
    refine rdS (As := [.int y]) (rest := []) ⟨hx, hb, hml, hown, hts⟩ (k_X9_isThing l dC dI cI cZ cQ y) (va_cwS 1 hts gX9_like_X9_isThing rfl rfl rfl (by decide +kernel) ⟨Nat.le_of_ble_eq_true rfl, Nat.le_of_ble_eq_true rfl⟩) hP hK hN [] rfl rfl hl.1 rfl (Nat.le_of_ble_eq_true rfl) dX9_like_8 ⟨Nat.le_of_ble_eq_true rfl, Nat.le_of_ble_eq_true rfl⟩ (fun r3 h4 => ?_)
    have h4 : ((((r3 = 1) ∧ (0 ≤ y.toInt) ∧ (y.toInt ≤ 23)) ∨ ((r3 = 0) ∧ (y.toInt < 0 ∨ 23 < y.toInt)))) := h4
    rcases h4 with (⟨rfl, h4_a0, h4_a1⟩ | ⟨rfl, h4_a0⟩)
    · refine lv_if_ne (tgt := 17) hx hb dX9_like_11 (by decide) (fun _ => ?_) (fun c9 => absurd c9 (by decide))
      refine lv_aload_n hx hb dX9_like_17 rfl (lv_at hl 0 rfl) ?_
      refine va_get (D := (dC, dI)) (ci := 9) (v := .ref (a 2)) (C := RX9) (T := TX9) (N := 11) hx hb hts inX9 hown hK hP 0 rfl rfl 1 (by decide) lf19 (fun _ h9 => h9) rfl dX9_like_18 ?_
      refine lv_iload_n hx hb dX9_like_21 rfl (lv_at hl 1 rfl) ?_
      refine lv_iload_n hx hb dX9_like_22 rfl (lv_at hl 2 rfl) ?_
      refine rdV (As := [.int x, .int y]) (rest := []) ⟨hx, hb, hml, hown, hts⟩ (k_X2_shared l dC dI cI cZ cQ a mar x y r_mar (by omega) (by omega) (by omega) (by omega)) (cwV 2 hts gX9_like_X2_shared rfl rfl rfl (by decide +kernel) ⟨Nat.le_of_ble_eq_true rfl, Nat.le_of_ble_eq_true rfl⟩) hP hK hN [1, 2] rfl 1 2 rfl rfl rfl hl.1 rfl (Nat.le_of_ble_eq_true rfl) dX9_like_23 ⟨Nat.le_of_ble_eq_true rfl, Nat.le_of_ble_eq_true rfl⟩ (fun r5 h6 => ?_)
      have h6 : (r5 = bc (mar x.toNatClampNeg &&& mar y.toNatClampNeg)) := h6
      have h6_0 := h6
      exact W.iret (v := r5) hx hb hr (fun tq ht hW => ⟨r5, rfl, (show spLike mar x y r5 from by (unfold spLike; subst_vars; first | exact Or.inl (⟨by omega, by omega, by assumption⟩) | exact Or.inr (⟨by omega, rfl⟩))), ht⟩) (fun q h => by cases h) dX9_like_26
    · refine lv_if_ne (tgt := 17) hx hb dX9_like_11 (by decide) (fun c9 => absurd (by decide) c9) (fun _ => ?_)
      refine lv_bipush (v := (-2)) hx hb dX9_like_14 (by decide) ?_
      exact W.iret (v := (-2)) hx hb hr (fun tq ht hW => ⟨(-2), rfl, (show spLike mar x y ((-2) : Int32) from by (try rw [show ((-2) : Int32).toInt = (-2) from (show ((-2) : Int32).toInt = (-2) from rfl)]); (unfold spLike; subst_vars; first | exact Or.inl (⟨by omega, by omega, by assumption⟩) | exact Or.inr (⟨by omega, rfl⟩))), ht⟩) (fun q h => by cases h) dX9_like_16
  · refine lv_if_eq (tgt := 14) hx hb dX9_like_4 (by decide) (fun _ => ?_) (fun c9 => absurd (by decide) c9)
    refine lv_bipush (v := (-2)) hx hb dX9_like_14 (by decide) ?_
    exact W.iret (v := (-2)) hx hb hr (fun tq ht hW => ⟨(-2), rfl, (show spLike mar x y ((-2) : Int32) from by (try rw [show ((-2) : Int32).toInt = (-2) from (show ((-2) : Int32).toInt = (-2) from rfl)]); (unfold spLike; subst_vars; first | exact Or.inl (⟨by omega, by omega, by assumption⟩) | exact Or.inr (⟨by omega, rfl⟩))), ht⟩) (fun q h => by cases h) dX9_like_16
set_option maxHeartbeats 4000000 in
set_option maxRecDepth 100000 in
theorem k_X9_set (l : Launch) (dC : Nat → ClassId) (dI : Nat → Nat → Nat) (cI cZ cQ : ClassId) (a : Nat → Nat) (rb0 : Nat) (rb1 : Nat) (rb2 : Nat) (db0 : Nat) (db1 : Nat) (db2 : Nat) (top : Nat → Int32) (str : Nat → Int32) (gho : Nat → Int32) (ghs : Nat → Int32) (pto : Nat → Int32) (cro : Nat → Int32) (pla : Nat → Int32) (wal : Nat → Int32) (fal : Nat → Int32) (tel : Int32) (gai : Int32) (day : Int32) (mar : Nat → Int32) (sz : Nat) (wh : Int32) (v : Int32) (r_top : rg 48 (-1) (23) top) (r_str : rg 48 (0) (100) str) (r_gho : rg 48 (-1) (23) gho) (r_ghs : rg 48 (0) (100) ghs) (r_cro : rg 48 (0) (6) cro) (r_pla : rg 24 (-1) (47) pla) (r_fal : rg 11 (0) (30) fal) (r_gai : 0 ≤ gai.toInt ∧ gai.toInt ≤ 100) (r_day : 0 ≤ day.toInt ∧ day.toInt ≤ 400) (r_mar : rg 24 (0) (255) mar) : KW l yX9_set wsX9_set { frames := 1, cells := 0, slots := 0, locals := 22 } (dC, dI) (TY cI cZ cQ) (wsC cI cZ cQ a rb0 rb1 rb2 db0 db1 db2 top str gho ghs pto cro pla wal fal tel gai day mar) [.ref (a 43), .int wh, .int v] sz 0 0 (fun (r : Int32) (u : US) => (spSet tel gai wh v r (u.1 0 0) (u.1 1 0)) ∧ (0 ≤ (u.1 1 0).toInt ∧ (u.1 1 0).toInt ≤ 100)) (fun u : US => (wsC cI cZ cQ a rb0 rb1 rb2 db0 db1 db2 top str gho ghs pto cro pla wal fal (u.1 0 0) (u.1 1 0) day mar)) := by
  refine Met.ofW (cc := cX9_set) (maxL := 4) (ret := (some .int)) (by decide) rfl ?_
  intro p e s m args below meth c s₁ B hml hv
  obtain ⟨rfl, hsz, hP, hK, hD0, hN⟩ := hv
  have hx := B.exec
  have hb := B.bytes
  have hr := B.returns
  have hts := atoms_spec (ws := wsX9_set) B.pre
  have hown : s.vm.findClass RX9 = some m.cls := findClass_of_methodNamed B.named
  have hlocks := B.notSynchronized
  have lf28 := hts (.fieldLink RX9 28 "PalaceOfRooms" "corners" "LPalaceOfRooms$Corners;") (List.mem_cons_of_mem _ (List.mem_append_left _ (List.mem_append_left _ (List.mem_of_getElem? (i := 0) rfl))))
  have inX9 : ∀ w ∈ wsX90, w ∈ wsX9_set := fun w h => List.mem_cons_of_mem _ (List.mem_append_left _ (List.mem_append_right _ h))
  have lf119 := hN.use (w := .fieldLinkNest "PalaceOfRooms" 119 "PalaceOfRooms$Corners" "gain" "I" "PalaceOfRooms") (List.mem_of_getElem? (i := 12) rfl) ([.ref (a 43), .int wh, .int v] : List Value).toArray
  have inX1 : ∀ w ∈ wsX10, w ∈ wsX9_set := fun w h => List.mem_cons_of_mem _ (List.mem_append_right _ h)
  have lf116 := hN.use (w := .fieldLinkNest "PalaceOfRooms" 116 "PalaceOfRooms$Corners" "tell" "I" "PalaceOfRooms") (List.mem_of_getElem? (i := 11) rfl) ([.ref (a 43), .int wh, .int v] : List Value).toArray
  subst hsz
  have hD := hD0.self (sz := s.heap.size)
  generalize hAe : va_A (wsC cI cZ cQ a rb0 rb1 rb2 db0 db1 db2 top str gho ghs pto cro pla wal fal tel gai day mar) s.heap.size = A at hD ⊢
  have hA : ∀ q : Nat, s.heap.size ≤ q → A q := fun q h => by rw [← hAe]; exact Or.inr h
  have hS : va_S A s.heap s.heap [] := va_S.rf
  have hl := lv_entry ([.ref (a 43), .int wh, .int v]) (n := 4) (Nat.le_of_ble_eq_true rfl)
  rw [lg_entry_eq]
  generalize (lg_sl ([.ref (a 43), .int wh, .int v]) ++ List.replicate (4 - (lg_sl ([.ref (a 43), .int wh, .int v])).length) Slot.unset).toArray = ls at hl ⊢
  have hl : lv_has ls 4 [(0, .ref (a 43)), (1, .int wh), (2, .int v)] := hl
  refine lv_iload_n hx hb dX9_set_0 rfl (lv_at hl 1 rfl) ?_
  refine lv_if_ne (tgt := 33) hx hb dX9_set_1 (by decide) (fun c1 => ?_) (fun c1 => ?_)
  · have dc1 : wh.toInt ≠ 0 := neC rfl (show (0 : Int32).toInt = 0 from rfl) c1
    refine lv_iload_n hx hb dX9_set_33 rfl (lv_at hl 1 rfl) ?_
    refine lv_iconst (v := 1) hx hb dX9_set_34 (by decide) ?_
    refine lv_icmp_ne (tgt := 67) hx hb dX9_set_35 (by decide) (fun c2 => ?_) (fun c2 => ?_)
    · have dc2 : wh.toInt ≠ 1 := neC rfl (show (1 : Int32).toInt = 1 from rfl) c2
      refine lv_bipush (v := (-3)) hx hb dX9_set_67 (by decide) ?_
      refine lv_istore_n (lv' := [(3, .int (-3)), (0, .ref (a 43)), (1, .int wh), (2, .int v)]) hx hb dX9_set_69 rfl hl (by decide) rfl (fun ls hl => ?_)
      refine lv_iload_n hx hb dX9_set_70 rfl (lv_at hl 0 rfl) ?_
      exact W.iret (v := (-3)) hx hb hr (fun tq ht hW => ⟨⟨(-3), (uS [(fun _ => tel), (fun _ => gai)] 0 (fun _ => 0)), rfl, ⟨(show spSet tel gai wh v ((-3) : Int32) tel gai from by (try rw [show ((-3) : Int32).toInt = (-3) from (show ((-3) : Int32).toInt = (-3) from rfl)]); (unfold spSet; subst_vars; first | exact Or.inl ⟨rfl, by omega, rfl, rfl, rfl⟩ | exact Or.inr (Or.inl ⟨rfl, by omega, rfl, rfl, rfl⟩) | exact Or.inr (Or.inr ⟨by (first | (intro hh; omega) | (intro hh; simp_all)), by (first | (intro hh; omega) | (intro hh; simp_all)), rfl, rfl, rfl⟩) | exact Or.inr (Or.inr ⟨fun hh => by (first | omega | exact absurd hh.1 (by assumption) | exact absurd hh.1 (by decide)), fun hh => by (first | omega | exact absurd hh.1 (by assumption) | exact absurd hh.1 (by decide)), rfl, rfl, rfl⟩))), r_gai⟩, by rw [ht]; exact hP, hD⟩, hS.F ht⟩) hS.2.2 dX9_set_71
    · have dc2 : wh.toInt = 1 := eqC rfl (show (1 : Int32).toInt = 1 from rfl) c2
      refine lv_iload_n hx hb dX9_set_38 rfl (lv_at hl 2 rfl) ?_
      refine lv_iconst (v := 0) hx hb dX9_set_39 (by decide) ?_
      refine lv_bipush (v := 100) hx hb dX9_set_40 (by decide) ?_
      refine rdS (As := [.int v, .int 0, .int 100]) (rest := []) ⟨hx, hb, hml, hown, hts⟩ (k_X9_within l dC dI cI cZ cQ v (0 : Int32) (100 : Int32)) (va_cwS 3 hts gX9_set_X9_within rfl rfl rfl (by decide +kernel) ⟨Nat.le_of_ble_eq_true rfl, Nat.le_of_ble_eq_true rfl⟩) hP hK hN [] rfl rfl hl.1 rfl (Nat.le_of_ble_eq_true rfl) dX9_set_42 ⟨Nat.le_of_ble_eq_true rfl, Nat.le_of_ble_eq_true rfl⟩ (fun r3 h4 => ?_)
      have h4 : ((((r3 = 1) ∧ ((0) ≤ v.toInt) ∧ (v.toInt ≤ (100))) ∨ ((r3 = 0) ∧ (v.toInt < (0) ∨ (100) < v.toInt)))) := h4
      rcases h4 with (⟨rfl, h4_a0, h4_a1⟩ | ⟨rfl, h4_a0⟩)
      · refine lv_if_eq (tgt := 67) hx hb dX9_set_45 (by decide) (fun c9 => absurd c9 (by decide)) (fun _ => ?_)
        refine lv_aload_n hx hb dX9_set_48 rfl (lv_at hl 0 rfl) ?_
        refine va_get (D := (dC, dI)) (ci := 9) (v := .ref (a 4)) (C := RX9) (T := TX9) (N := 11) hx hb hts inX9 hown hK hP 0 rfl rfl 2 (by decide) lf28 (fun _ h9 => h9) rfl dX9_set_49 ?_
        refine va_getN (D := (dC, dI)) (ci := 1) (v := .int gai) (C := RX1) (T := TX1) (N := 13) hx hb hts inX1 hown hK hP 1 rfl rfl 11 (by decide) lf119 (fun _ h9 => h9) rfl dX9_set_52 ?_
        refine lv_istore_n (lv' := [(3, .int gai), (0, .ref (a 43)), (1, .int wh), (2, .int v)]) hx hb dX9_set_55 rfl hl (by decide) rfl (fun ls hl => ?_)
        refine lv_aload_n hx hb dX9_set_56 rfl (lv_at hl 1 rfl) ?_
        refine va_get (D := (dC, dI)) (ci := 9) (v := .ref (a 4)) (C := RX9) (T := TX9) (N := 11) hx hb hts inX9 hown hK hP 0 rfl rfl 2 (by decide) lf28 (fun _ h9 => h9) rfl dX9_set_57 ?_
        refine lv_iload_n hx hb dX9_set_60 rfl (lv_at hl 3 rfl) ?_
        refine va_putN (D := (dC, dI)) (ci := 1) (v := .int v) (ty := .int) (C := RX1) (T := TX1) (N := 13) hx hb hts inX1 tyX1 tyX1_ok nmX1 hown hK hP hD hS 1 rfl rfl 11 (by decide) lf119 (fun _ h9 => h9) rfl (by decide +kernel) rfl rfl (Nat.le_of_ble_eq_true rfl) dX9_set_61 (fun H locs hP hD hS => ?_)
        have g5 : 0 ≤ v.toInt ∧ v.toInt ≤ 100 := by rw [show v.toInt = v.toInt from rfl]; exact ⟨by omega, by omega⟩
        have hP : va_P (dC, dI) vwCl (wsC cI cZ cQ a rb0 rb1 rb2 db0 db1 db2 top str gho ghs pto cro pla wal fal tel v day mar) H := hP
        have hD : va_D A (wsC cI cZ cQ a rb0 rb1 rb2 db0 db1 db2 top str gho ghs pto cro pla wal fal tel v day mar) := hD
        refine lv_goto (tgt := 70) hx hb dX9_set_64 (by decide) ?_
        refine lv_iload_n hx hb dX9_set_70 rfl (lv_at hl 0 rfl) ?_
        exact W.iret (v := gai) hx hb hr (fun tq ht hW => ⟨⟨gai, (uS [(fun _ => tel), (fun _ => v)] 0 (fun _ => 0)), rfl, ⟨(show spSet tel gai wh v gai tel v from by (unfold spSet; subst_vars; first | exact Or.inl ⟨rfl, by omega, rfl, rfl, rfl⟩ | exact Or.inr (Or.inl ⟨rfl, by omega, rfl, rfl, rfl⟩) | exact Or.inr (Or.inr ⟨by (first | (intro hh; omega) | (intro hh; simp_all)), by (first | (intro hh; omega) | (intro hh; simp_all)), rfl, rfl, rfl⟩) | exact Or.inr (Or.inr ⟨fun hh => by (first | omega | exact absurd hh.1 (by assumption) | exact absurd hh.1 (by decide)), fun hh => by (first | omega | exact absurd hh.1 (by assumption) | exact absurd hh.1 (by decide)), rfl, rfl, rfl⟩))), g5⟩, by rw [ht]; exact hP, hD⟩, hS.F ht⟩) hS.2.2 dX9_set_71
      · refine lv_if_eq (tgt := 67) hx hb dX9_set_45 (by decide) (fun _ => ?_) (fun c9 => absurd (by decide) c9)
        refine lv_bipush (v := (-3)) hx hb dX9_set_67 (by decide) ?_
        refine lv_istore_n (lv' := [(3, .int (-3)), (0, .ref (a 43)), (1, .int wh), (2, .int v)]) hx hb dX9_set_69 rfl hl (by decide) rfl (fun ls hl => ?_)
        refine lv_iload_n hx hb dX9_set_70 rfl (lv_at hl 0 rfl) ?_
        exact W.iret (v := (-3)) hx hb hr (fun tq ht hW => ⟨⟨(-3), (uS [(fun _ => tel), (fun _ => gai)] 0 (fun _ => 0)), rfl, ⟨(show spSet tel gai wh v ((-3) : Int32) tel gai from by (try rw [show ((-3) : Int32).toInt = (-3) from (show ((-3) : Int32).toInt = (-3) from rfl)]); (unfold spSet; subst_vars; first | exact Or.inl ⟨rfl, by omega, rfl, rfl, rfl⟩ | exact Or.inr (Or.inl ⟨rfl, by omega, rfl, rfl, rfl⟩) | exact Or.inr (Or.inr ⟨by (first | (intro hh; omega) | (intro hh; simp_all)), by (first | (intro hh; omega) | (intro hh; simp_all)), rfl, rfl, rfl⟩) | exact Or.inr (Or.inr ⟨fun hh => by (first | omega | exact absurd hh.1 (by assumption) | exact absurd hh.1 (by decide)), fun hh => by (first | omega | exact absurd hh.1 (by assumption) | exact absurd hh.1 (by decide)), rfl, rfl, rfl⟩))), r_gai⟩, by rw [ht]; exact hP, hD⟩, hS.F ht⟩) hS.2.2 dX9_set_71
  · have dc1 : wh.toInt = 0 := eqC rfl (show (0 : Int32).toInt = 0 from rfl) c1
    refine lv_iload_n hx hb dX9_set_4 rfl (lv_at hl 2 rfl) ?_
    refine lv_iconst (v := 1) hx hb dX9_set_5 (by decide) ?_
    refine lv_bipush (v := 8) hx hb dX9_set_6 (by decide) ?_
    refine rdS (As := [.int v, .int 1, .int 8]) (rest := []) ⟨hx, hb, hml, hown, hts⟩ (k_X9_within l dC dI cI cZ cQ v (1 : Int32) (8 : Int32)) (va_cwS 3 hts gX9_set_X9_within rfl rfl rfl (by decide +kernel) ⟨Nat.le_of_ble_eq_true rfl, Nat.le_of_ble_eq_true rfl⟩) hP hK hN [] rfl rfl hl.1 rfl (Nat.le_of_ble_eq_true rfl) dX9_set_8 ⟨Nat.le_of_ble_eq_true rfl, Nat.le_of_ble_eq_true rfl⟩ (fun r6 h7 => ?_)
    have h7 : ((((r6 = 1) ∧ ((1) ≤ v.toInt) ∧ (v.toInt ≤ (8))) ∨ ((r6 = 0) ∧ (v.toInt < (1) ∨ (8) < v.toInt)))) := h7
    rcases h7 with (⟨rfl, h7_a0, h7_a1⟩ | ⟨rfl, h7_a0⟩)
    · refine lv_if_eq (tgt := 33) hx hb dX9_set_11 (by decide) (fun c9 => absurd c9 (by decide)) (fun _ => ?_)
      refine lv_aload_n hx hb dX9_set_14 rfl (lv_at hl 0 rfl) ?_
      refine va_get (D := (dC, dI)) (ci := 9) (v := .ref (a 4)) (C := RX9) (T := TX9) (N := 11) hx hb hts inX9 hown hK hP 0 rfl rfl 2 (by decide) lf28 (fun _ h9 => h9) rfl dX9_set_15 ?_
      refine va_getN (D := (dC, dI)) (ci := 1) (v := .int tel) (C := RX1) (T := TX1) (N := 13) hx hb hts inX1 hown hK hP 1 rfl rfl 10 (by decide) lf116 (fun _ h9 => h9) rfl dX9_set_18 ?_
      refine lv_istore_n (lv' := [(3, .int tel), (0, .ref (a 43)), (1, .int wh), (2, .int v)]) hx hb dX9_set_21 rfl hl (by decide) rfl (fun ls hl => ?_)
      refine lv_aload_n hx hb dX9_set_22 rfl (lv_at hl 1 rfl) ?_
      refine va_get (D := (dC, dI)) (ci := 9) (v := .ref (a 4)) (C := RX9) (T := TX9) (N := 11) hx hb hts inX9 hown hK hP 0 rfl rfl 2 (by decide) lf28 (fun _ h9 => h9) rfl dX9_set_23 ?_
      refine lv_iload_n hx hb dX9_set_26 rfl (lv_at hl 3 rfl) ?_
      refine va_putN (D := (dC, dI)) (ci := 1) (v := .int v) (ty := .int) (C := RX1) (T := TX1) (N := 13) hx hb hts inX1 tyX1 tyX1_ok nmX1 hown hK hP hD hS 1 rfl rfl 10 (by decide) lf116 (fun _ h9 => h9) rfl (by decide +kernel) rfl rfl (Nat.le_of_ble_eq_true rfl) dX9_set_27 (fun H locs hP hD hS => ?_)
      have hP : va_P (dC, dI) vwCl (wsC cI cZ cQ a rb0 rb1 rb2 db0 db1 db2 top str gho ghs pto cro pla wal fal v gai day mar) H := hP
      have hD : va_D A (wsC cI cZ cQ a rb0 rb1 rb2 db0 db1 db2 top str gho ghs pto cro pla wal fal v gai day mar) := hD
      refine lv_goto (tgt := 70) hx hb dX9_set_30 (by decide) ?_
      refine lv_iload_n hx hb dX9_set_70 rfl (lv_at hl 0 rfl) ?_
      exact W.iret (v := tel) hx hb hr (fun tq ht hW => ⟨⟨tel, (uS [(fun _ => v), (fun _ => gai)] 0 (fun _ => 0)), rfl, ⟨(show spSet tel gai wh v tel v gai from by (unfold spSet; subst_vars; first | exact Or.inl ⟨rfl, by omega, rfl, rfl, rfl⟩ | exact Or.inr (Or.inl ⟨rfl, by omega, rfl, rfl, rfl⟩) | exact Or.inr (Or.inr ⟨by (first | (intro hh; omega) | (intro hh; simp_all)), by (first | (intro hh; omega) | (intro hh; simp_all)), rfl, rfl, rfl⟩) | exact Or.inr (Or.inr ⟨fun hh => by (first | omega | exact absurd hh.1 (by assumption) | exact absurd hh.1 (by decide)), fun hh => by (first | omega | exact absurd hh.1 (by assumption) | exact absurd hh.1 (by decide)), rfl, rfl, rfl⟩))), r_gai⟩, by rw [ht]; exact hP, hD⟩, hS.F ht⟩) hS.2.2 dX9_set_71
    · refine lv_if_eq (tgt := 33) hx hb dX9_set_11 (by decide) (fun _ => ?_) (fun c9 => absurd (by decide) c9)
      refine lv_iload_n hx hb dX9_set_33 rfl (lv_at hl 1 rfl) ?_
      refine lv_iconst (v := 1) hx hb dX9_set_34 (by decide) ?_
      refine lv_icmp_ne (tgt := 67) hx hb dX9_set_35 (by decide) (fun c8 => ?_) (fun c8 => ?_)
      · have dc8 : wh.toInt ≠ 1 := neC rfl (show (1 : Int32).toInt = 1 from rfl) c8
        refine lv_bipush (v := (-3)) hx hb dX9_set_67 (by decide) ?_
        refine lv_istore_n (lv' := [(3, .int (-3)), (0, .ref (a 43)), (1, .int wh), (2, .int v)]) hx hb dX9_set_69 rfl hl (by decide) rfl (fun ls hl => ?_)
        refine lv_iload_n hx hb dX9_set_70 rfl (lv_at hl 0 rfl) ?_
        exact W.iret (v := (-3)) hx hb hr (fun tq ht hW => ⟨⟨(-3), (uS [(fun _ => tel), (fun _ => gai)] 0 (fun _ => 0)), rfl, ⟨(show spSet tel gai wh v ((-3) : Int32) tel gai from by (try rw [show ((-3) : Int32).toInt = (-3) from (show ((-3) : Int32).toInt = (-3) from rfl)]); (unfold spSet; subst_vars; first | exact Or.inl ⟨rfl, by omega, rfl, rfl, rfl⟩ | exact Or.inr (Or.inl ⟨rfl, by omega, rfl, rfl, rfl⟩) | exact Or.inr (Or.inr ⟨by (first | (intro hh; omega) | (intro hh; simp_all)), by (first | (intro hh; omega) | (intro hh; simp_all)), rfl, rfl, rfl⟩) | exact Or.inr (Or.inr ⟨fun hh => by (first | omega | exact absurd hh.1 (by assumption) | exact absurd hh.1 (by decide)), fun hh => by (first | omega | exact absurd hh.1 (by assumption) | exact absurd hh.1 (by decide)), rfl, rfl, rfl⟩))), r_gai⟩, by rw [ht]; exact hP, hD⟩, hS.F ht⟩) hS.2.2 dX9_set_71
      · have dc8 : wh.toInt = 1 := eqC rfl (show (1 : Int32).toInt = 1 from rfl) c8
        exfalso
        omega
set_option maxHeartbeats 4000000 in
set_option maxRecDepth 100000 in
theorem k_X9_fall (l : Launch) (dC : Nat → ClassId) (dI : Nat → Nat → Nat) (cI cZ cQ : ClassId) (a : Nat → Nat) (rb0 : Nat) (rb1 : Nat) (rb2 : Nat) (db0 : Nat) (db1 : Nat) (db2 : Nat) (top : Nat → Int32) (str : Nat → Int32) (gho : Nat → Int32) (ghs : Nat → Int32) (pto : Nat → Int32) (cro : Nat → Int32) (pla : Nat → Int32) (wal : Nat → Int32) (fal : Nat → Int32) (tel : Int32) (gai : Int32) (day : Int32) (mar : Nat → Int32) (sz : Nat) (k : Int32) (v : Int32) (r_top : rg 48 (-1) (23) top) (r_str : rg 48 (0) (100) str) (r_gho : rg 48 (-1) (23) gho) (r_ghs : rg 48 (0) (100) ghs) (r_cro : rg 48 (0) (6) cro) (r_pla : rg 24 (-1) (47) pla) (r_fal : rg 11 (0) (30) fal) (r_gai : 0 ≤ gai.toInt ∧ gai.toInt ≤ 100) (r_day : 0 ≤ day.toInt ∧ day.toInt ≤ 400) (r_mar : rg 24 (0) (255) mar) : KW l yX9_fall wsX9_fall { frames := 1, cells := 0, slots := 0, locals := 22 } (dC, dI) (TY cI cZ cQ) (wsC cI cZ cQ a rb0 rb1 rb2 db0 db1 db2 top str gho ghs pto cro pla wal fal tel gai day mar) [.ref (a 43), .int k, .int v] sz 0 0 (fun (r : Int32) (u : US) => (spFall fal k v r (u.1 0)) ∧ (rg 11 (0) (30) (u.1 0))) (fun u : US => (wsC cI cZ cQ a rb0 rb1 rb2 db0 db1 db2 top str gho ghs pto cro pla wal (u.1 0) tel gai day mar)) := by
  refine Met.ofW (cc := cX9_fall) (maxL := 4) (ret := (some .int)) (by decide) rfl ?_
  intro p e s m args below meth c s₁ B hml hv
  obtain ⟨rfl, hsz, hP, hK, hD0, hN⟩ := hv
  have hx := B.exec
  have hb := B.bytes
  have hr := B.returns
  have hts := atoms_spec (ws := wsX9_fall) B.pre
  have hown : s.vm.findClass RX9 = some m.cls := findClass_of_methodNamed B.named
  have hlocks := B.notSynchronized
  have lf28 := hts (.fieldLink RX9 28 "PalaceOfRooms" "corners" "LPalaceOfRooms$Corners;") (List.mem_cons_of_mem _ (List.mem_append_left _ (List.mem_append_left _ (List.mem_of_getElem? (i := 0) rfl))))
  have inX9 : ∀ w ∈ wsX90, w ∈ wsX9_fall := fun w h => List.mem_cons_of_mem _ (List.mem_append_left _ (List.mem_append_right _ h))
  have lf122 := hN.use (w := .fieldLinkNest "PalaceOfRooms" 122 "PalaceOfRooms$Corners" "fallOf" "[I" "PalaceOfRooms") (List.mem_of_getElem? (i := 10) rfl) ([.ref (a 43), .int k, .int v] : List Value).toArray
  have inX1 : ∀ w ∈ wsX10, w ∈ wsX9_fall := fun w h => List.mem_cons_of_mem _ (List.mem_append_right _ h)
  subst hsz
  have hD := hD0.self (sz := s.heap.size)
  generalize hAe : va_A (wsC cI cZ cQ a rb0 rb1 rb2 db0 db1 db2 top str gho ghs pto cro pla wal fal tel gai day mar) s.heap.size = A at hD ⊢
  have hA : ∀ q : Nat, s.heap.size ≤ q → A q := fun q h => by rw [← hAe]; exact Or.inr h
  have hS : va_S A s.heap s.heap [] := va_S.rf
  have hl := lv_entry ([.ref (a 43), .int k, .int v]) (n := 4) (Nat.le_of_ble_eq_true rfl)
  rw [lg_entry_eq]
  generalize (lg_sl ([.ref (a 43), .int k, .int v]) ++ List.replicate (4 - (lg_sl ([.ref (a 43), .int k, .int v])).length) Slot.unset).toArray = ls at hl ⊢
  have hl : lv_has ls 4 [(0, .ref (a 43)), (1, .int k), (2, .int v)] := hl
  refine lv_iload_n hx hb dX9_fall_0 rfl (lv_at hl 1 rfl) ?_
  refine lv_iconst (v := 0) hx hb dX9_fall_1 (by decide) ?_
  refine lv_bipush (v := 10) hx hb dX9_fall_2 (by decide) ?_
  refine rdS (As := [.int k, .int 0, .int 10]) (rest := []) ⟨hx, hb, hml, hown, hts⟩ (k_X9_within l dC dI cI cZ cQ k (0 : Int32) (10 : Int32)) (va_cwS 3 hts gX9_fall_X9_within rfl rfl rfl (by decide +kernel) ⟨Nat.le_of_ble_eq_true rfl, Nat.le_of_ble_eq_true rfl⟩) hP hK hN [] rfl rfl hl.1 rfl (Nat.le_of_ble_eq_true rfl) dX9_fall_4 ⟨Nat.le_of_ble_eq_true rfl, Nat.le_of_ble_eq_true rfl⟩ (fun r1 h2 => ?_)
  have h2 : ((((r1 = 1) ∧ ((0) ≤ k.toInt) ∧ (k.toInt ≤ (10))) ∨ ((r1 = 0) ∧ (k.toInt < (0) ∨ (10) < k.toInt)))) := h2
  rcases h2 with (⟨rfl, h2_a0, h2_a1⟩ | ⟨rfl, h2_a0⟩)
  · refine lv_if_eq (tgt := 20) hx hb dX9_fall_7 (by decide) (fun c9 => absurd c9 (by decide)) (fun _ => ?_)
    refine lv_iload_n hx hb dX9_fall_10 rfl (lv_at hl 2 rfl) ?_
    refine lv_iconst (v := 0) hx hb dX9_fall_11 (by decide) ?_
    refine lv_bipush (v := 30) hx hb dX9_fall_12 (by decide) ?_
    refine rdS (As := [.int v, .int 0, .int 30]) (rest := []) ⟨hx, hb, hml, hown, hts⟩ (k_X9_within l dC dI cI cZ cQ v (0 : Int32) (30 : Int32)) (va_cwS 3 hts gX9_fall_X9_within rfl rfl rfl (by decide +kernel) ⟨Nat.le_of_ble_eq_true rfl, Nat.le_of_ble_eq_true rfl⟩) hP hK hN [] rfl rfl hl.1 rfl (Nat.le_of_ble_eq_true rfl) dX9_fall_14 ⟨Nat.le_of_ble_eq_true rfl, Nat.le_of_ble_eq_true rfl⟩ (fun r3 h4 => ?_)
    have h4 : ((((r3 = 1) ∧ ((0) ≤ v.toInt) ∧ (v.toInt ≤ (30))) ∨ ((r3 = 0) ∧ (v.toInt < (0) ∨ (30) < v.toInt)))) := h4
    rcases h4 with (⟨rfl, h4_a0, h4_a1⟩ | ⟨rfl, h4_a0⟩)
    · refine lv_if_ne (tgt := 23) hx hb dX9_fall_17 (by decide) (fun _ => ?_) (fun c9 => absurd c9 (by decide))
      refine lv_aload_n hx hb dX9_fall_23 rfl (lv_at hl 0 rfl) ?_
      refine va_get (D := (dC, dI)) (ci := 9) (v := .ref (a 4)) (C := RX9) (T := TX9) (N := 11) hx hb hts inX9 hown hK hP 0 rfl rfl 2 (by decide) lf28 (fun _ h9 => h9) rfl dX9_fall_24 ?_
      refine va_getN (D := (dC, dI)) (ci := 1) (v := .ref (a 13)) (C := RX1) (T := TX1) (N := 13) hx hb hts inX1 hown hK hP 1 rfl rfl 9 (by decide) lf122 (fun _ h9 => h9) rfl dX9_fall_27 ?_
      refine lv_iload_n hx hb dX9_fall_30 rfl (lv_at hl 1 rfl) ?_
      have b5 : vp_in k 11 := inC rfl (by omega) (by omega)
      refine va_iald hx hb hK hP 10 0 rfl rfl b5 dX9_fall_31 ?_
      have g6 : 0 ≤ (fal k.toNatClampNeg).toInt ∧ (fal k.toNatClampNeg).toInt ≤ 30 := rg_at r_fal b5
      refine lv_topi (fun x7 ex7 => ?_)
      have ix7 : x7.toInt = (fal k.toNatClampNeg).toInt := by rw [ex7]
      refine lv_istore_n (lv' := [(3, .int x7), (0, .ref (a 43)), (1, .int k), (2, .int v)]) hx hb dX9_fall_32 rfl hl (by decide) rfl (fun ls hl => ?_)
      refine lv_aload_n hx hb dX9_fall_33 rfl (lv_at hl 1 rfl) ?_
      refine va_get (D := (dC, dI)) (ci := 9) (v := .ref (a 4)) (C := RX9) (T := TX9) (N := 11) hx hb hts inX9 hown hK hP 0 rfl rfl 2 (by decide) lf28 (fun _ h9 => h9) rfl dX9_fall_34 ?_
      refine va_getN (D := (dC, dI)) (ci := 1) (v := .ref (a 13)) (C := RX1) (T := TX1) (N := 13) hx hb hts inX1 hown hK hP 1 rfl rfl 9 (by decide) lf122 (fun _ h9 => h9) rfl dX9_fall_37 ?_
      refine lv_iload_n hx hb dX9_fall_40 rfl (lv_at hl 2 rfl) ?_
      refine lv_iload_n hx hb dX9_fall_41 rfl (lv_at hl 3 rfl) ?_
      have b8 : vp_in k 11 := inC rfl (by omega) (by omega)
      have g9 : rg 11 (0) (30) (upd fal k.toNatClampNeg v) := rg_upd r_fal rfl (by omega) (by omega)
      refine va_iast hx hb hK hP hD hS 10 0 rfl rfl b8 dX9_fall_42 (fun H locs hP hD hS => ?_)
      obtain ⟨fal_u10, efal_u10⟩ : ∃ f : Nat → Int32, f = upd fal k.toNatClampNeg v := ⟨_, rfl⟩
      have rfal_u10 : rg 11 (0) (30) fal_u10 := by rw [efal_u10]; exact g9
      have hP : va_P (dC, dI) vwCl (wsC cI cZ cQ a rb0 rb1 rb2 db0 db1 db2 top str gho ghs pto cro pla wal fal_u10 tel gai day mar) H := by rw [efal_u10]; exact hP
      have hD : va_D A (wsC cI cZ cQ a rb0 rb1 rb2 db0 db1 db2 top str gho ghs pto cro pla wal fal_u10 tel gai day mar) := by rw [efal_u10]; exact hD
      refine lv_iload_n hx hb dX9_fall_43 rfl (lv_at hl 0 rfl) ?_
      exact W.iret (v := x7) hx hb hr (fun tq ht hW => ⟨⟨x7, (uS [fal_u10] 0 (fun _ => 0)), rfl, ⟨(show spFall fal k v x7 fal_u10 from by (unfold spFall; subst_vars; first | exact Or.inl (⟨by omega, rfl, rfl⟩) | exact Or.inr (⟨by omega, by omega, rfl, rfl⟩))), rfal_u10⟩, by rw [ht]; exact hP, hD⟩, hS.F ht⟩) hS.2.2 dX9_fall_44
    · refine lv_if_ne (tgt := 23) hx hb dX9_fall_17 (by decide) (fun c9 => absurd (by decide) c9) (fun _ => ?_)
      refine lv_bipush (v := (-3)) hx hb dX9_fall_20 (by decide) ?_
      exact W.iret (v := (-3)) hx hb hr (fun tq ht hW => ⟨⟨(-3), (uS [fal] 0 (fun _ => 0)), rfl, ⟨(show spFall fal k v ((-3) : Int32) fal from by (try rw [show ((-3) : Int32).toInt = (-3) from (show ((-3) : Int32).toInt = (-3) from rfl)]); (unfold spFall; subst_vars; first | exact Or.inl (⟨by omega, rfl, rfl⟩) | exact Or.inr (⟨by omega, by omega, rfl, rfl⟩))), r_fal⟩, by rw [ht]; exact hP, hD⟩, hS.F ht⟩) hS.2.2 dX9_fall_22
  · refine lv_if_eq (tgt := 20) hx hb dX9_fall_7 (by decide) (fun _ => ?_) (fun c9 => absurd (by decide) c9)
    refine lv_bipush (v := (-3)) hx hb dX9_fall_20 (by decide) ?_
    exact W.iret (v := (-3)) hx hb hr (fun tq ht hW => ⟨⟨(-3), (uS [fal] 0 (fun _ => 0)), rfl, ⟨(show spFall fal k v ((-3) : Int32) fal from by (try rw [show ((-3) : Int32).toInt = (-3) from (show ((-3) : Int32).toInt = (-3) from rfl)]); (unfold spFall; subst_vars; first | exact Or.inl (⟨by omega, rfl, rfl⟩) | exact Or.inr (⟨by omega, by omega, rfl, rfl⟩))), r_fal⟩, by rw [ht]; exact hP, hD⟩, hS.F ht⟩) hS.2.2 dX9_fall_22
end
section
set_option maxHeartbeats 4000000 in
set_option maxRecDepth 100000 in
theorem k_X9_thingOf (l : Launch) (dC : Nat → ClassId) (dI : Nat → Nat → Nat) (cI cZ cQ : ClassId) (row : Int64) (k : Int32)  : KR l yX9_thingOf wsX9_thingOf { frames := 0, cells := 0, slots := 0, locals := 0 } (dC, dI) (TY cI cZ cQ) (wNil cI cZ cQ) [.long row, .int k] (fun r : Int32 => ((thF row k).toInt = r.toInt) ∧ (0 ≤ r.toInt) ∧ (r.toInt ≤ 31)) := by
  refine Met.ofW (cc := cX9_thingOf) (maxL := 3) (ret := (some .int)) (by decide) rfl ?_
  intro p e s m args below meth c s₁ B hml hv
  obtain ⟨rfl, hP, hK, hN⟩ := hv
  have hx := B.exec
  have hb := B.bytes
  have hr := B.returns
  have hts := atoms_spec (ws := wsX9_thingOf) B.pre
  have hown : s.vm.findClass RX9 = some m.cls := findClass_of_methodNamed B.named
  have hlocks := B.notSynchronized
  have hl := lv_entry ([.long row, .int k]) (n := 3) (Nat.le_of_ble_eq_true rfl)
  rw [lg_entry_eq]
  generalize (lg_sl ([.long row, .int k]) ++ List.replicate (3 - (lg_sl ([.long row, .int k])).length) Slot.unset).toArray = ls at hl ⊢
  have hl : lv_has ls 3 [(0, .long row), (2, .int k)] := hl
  refine lv_lload_n hx hb dX9_thingOf_0 rfl (lv_at hl 0 rfl) ?_
  refine lv_iconst (v := 5) hx hb dX9_thingOf_1 (by decide) ?_
  refine lv_iload_n hx hb dX9_thingOf_2 rfl (lv_at hl 1 rfl) ?_
  refine lv_imul hx hb dX9_thingOf_3 ?_
  refine lv_lshr hx hb dX9_thingOf_4 rfl ?_
  refine lv_ldc2 (v := 31) hx hb hown (hts (.constantLong RX9 313 (31)) (List.mem_cons_of_mem _ (List.mem_of_getElem? (i := 0) rfl))) dX9_thingOf_5 ?_
  refine lv_land hx hb dX9_thingOf_8 ?_
  refine lv_l2i hx hb dX9_thingOf_9 rfl ?_
  have f1 : 0 ≤ (((row >>> ((5 * k).toInt64 &&& 63)) &&& 31).toInt32).toInt ∧ (((row >>> ((5 * k).toInt64 &&& 63)) &&& 31).toInt32).toInt ≤ 31 := l2iM31 _
  exact W.iret (v := ((row >>> ((5 * k).toInt64 &&& 63)) &&& 31).toInt32) hx hb hr (fun tq ht hW => ⟨((row >>> ((5 * k).toInt64 &&& 63)) &&& 31).toInt32, rfl, ⟨(show (thF row k).toInt = (((row >>> ((5 * k).toInt64 &&& 63)) &&& 31).toInt32).toInt from by rfl), (show 0 ≤ (((row >>> ((5 * k).toInt64 &&& 63)) &&& 31).toInt32).toInt from by omega), (show (((row >>> ((5 * k).toInt64 &&& 63)) &&& 31).toInt32).toInt ≤ 31 from by omega)⟩, ht⟩) (fun q h => by cases h) dX9_thingOf_10
set_option maxHeartbeats 4000000 in
set_option maxRecDepth 100000 in
theorem k_X9_rowRefusal (l : Launch) (dC : Nat → ClassId) (dI : Nat → Nat → Nat) (cI cZ cQ : ClassId) (a : Nat → Nat) (rb0 : Nat) (rb1 : Nat) (rb2 : Nat) (db0 : Nat) (db1 : Nat) (db2 : Nat) (tol : Nat → Int32) (sz : Nat) (row : Int64) (n : Int32) (i : Int32) (least : Int32) (most : Int32) (r_tol : rg 8 (0) (23) tol) (q0 : 1 ≤ least.toInt) (q1 : most.toInt ≤ 8) : KW l yX9_rowRefusal wsX9_rowRefusal { frames := 2, cells := 0, slots := 0, locals := 42 } (dC, dI) (TY cI cZ cQ) (wsTo cI cZ cQ a rb0 rb1 rb2 db0 db1 db2 tol) [.ref (a 43), .long row, .int n, .int i, .int least, .int most] sz 0 0 (fun (r : Int32) (u : US) => ((((r = 0) ∧ (least.toInt ≤ n.toInt) ∧ (n.toInt ≤ most.toInt) ∧ (-1 ≤ i.toInt)) ∨ ((r = (-2))) ∨ ((r = (-3))))) ∧ (rg 8 (0) (23) (u.1 0))) (fun u : US => (wsTo cI cZ cQ a rb0 rb1 rb2 db0 db1 db2 (u.1 0))) := by
  refine Met.ofW (cc := cX9_rowRefusal) (maxL := 11) (ret := (some .int)) (by decide) rfl ?_
  intro p e s m args below meth c s₁ B hml hv
  obtain ⟨rfl, hsz, hP, hK, hD0, hN⟩ := hv
  have hx := B.exec
  have hb := B.bytes
  have hr := B.returns
  have hts := atoms_spec (ws := wsX9_rowRefusal) B.pre
  have hown : s.vm.findClass RX9 = some m.cls := findClass_of_methodNamed B.named
  have hlocks := B.notSynchronized
  have lf69 := hts (.fieldLink RX9 69 "PalaceOfRooms" "told" "[I") (List.mem_cons_of_mem _ (List.mem_append_left _ (List.mem_of_getElem? (i := 4) rfl)))
  have inX9 : ∀ w ∈ wsX90, w ∈ wsX9_rowRefusal := fun w h => List.mem_cons_of_mem _ (List.mem_append_right _ h)
  subst hsz
  have hD := hD0.self (sz := s.heap.size)
  generalize hAe : va_A (wsTo cI cZ cQ a rb0 rb1 rb2 db0 db1 db2 tol) s.heap.size = A at hD ⊢
  have hA : ∀ q : Nat, s.heap.size ≤ q → A q := fun q h => by rw [← hAe]; exact Or.inr h
  have hS : va_S A s.heap s.heap [] := va_S.rf
  have hl := lv_entry ([.ref (a 43), .long row, .int n, .int i, .int least, .int most]) (n := 11) (Nat.le_of_ble_eq_true rfl)
  rw [lg_entry_eq]
  generalize (lg_sl ([.ref (a 43), .long row, .int n, .int i, .int least, .int most]) ++ List.replicate (11 - (lg_sl ([.ref (a 43), .long row, .int n, .int i, .int least, .int most])).length) Slot.unset).toArray = ls at hl ⊢
  have hl : lv_has ls 11 [(0, .ref (a 43)), (1, .long row), (3, .int n), (4, .int i), (5, .int least), (6, .int most)] := hl
  refine lv_iload_n hx hb dX9_rowRefusal_0 rfl (lv_at hl 2 rfl) ?_
  refine lv_bipush (v := 12) hx hb dX9_rowRefusal_1 (by decide) ?_
  refine va_mmin hx hb (by rw [hml]; exact hl.1.symm) hown (hts (.methodLink RX9 285 Lib.Math.min.name) (List.mem_cons_of_mem _ (List.mem_append_left _ (List.mem_of_getElem? (i := 0) rfl)))) (hts (.static Lib.Math.min.name) (List.mem_cons_of_mem _ (List.mem_append_left _ (List.mem_of_getElem? (i := 1) rfl)))) (hts (.initialized "java/lang/Math") (List.mem_cons_of_mem _ (List.mem_append_left _ (List.mem_of_getElem? (i := 2) rfl)))) (hts (.code Lib.Math.min.name Lib.Math.min.code 2 (some .int)) (List.mem_cons_of_mem _ (List.mem_append_left _ (List.mem_of_getElem? (i := 3) rfl)))) (Nat.le_of_ble_eq_true rfl) (Nat.le_of_ble_eq_true rfl) (Nat.le_of_ble_eq_true rfl) (Nat.le_of_ble_eq_true rfl) dX9_rowRefusal_3 ?_
  have f1 : (if (12 : Int32) < n then 12 else n : Int32).toInt = min (n.toInt) (12) := minC rfl (show (12 : Int32).toInt = 12 from rfl)
  refine lv_topi (fun x2 ex2 => ?_)
  have ix2 : x2.toInt = min (n.toInt) (12) := by rw [ex2]; exact f1
  refine lv_istore (lv' := [(7, .int x2), (0, .ref (a 43)), (1, .long row), (3, .int n), (4, .int i), (5, .int least), (6, .int most)]) hx hb dX9_rowRefusal_6 hl (by decide) rfl (fun ls hl => ?_)
  refine lv_iconst (v := 0) hx hb dX9_rowRefusal_8 (by decide) ?_
  refine lv_istore (lv' := [(8, .int 0), (7, .int x2), (0, .ref (a 43)), (1, .long row), (3, .int n), (4, .int i), (5, .int least), (6, .int most)]) hx hb dX9_rowRefusal_9 hl (by decide) rfl (fun ls hl => ?_)
  have L11 : ∀ (nn : Nat) (y11_8 : Int32) (H : Heap) (locs : List Loc) (ls : Array Slot), (0 ≤ (y11_8.toInt)) → ((y11_8.toInt) ≤ 12) → (∀ j : Nat, (j : Int) < (y11_8.toInt) → (thF row (nI j)).toInt ≤ 23) → (12 - (y11_8.toInt)).toNat < nn → va_P (dC, dI) vwCl (wsTo cI cZ cQ a rb0 rb1 rb2 db0 db1 db2 tol) H → va_D A (wsTo cI cZ cQ a rb0 rb1 rb2 db0 db1 db2 tol) → va_S A s.heap H locs → lv_has ls 11 [(0, .ref (a 43)), (1, .long row), (3, .int n), (4, .int i), (5, .int least), (6, .int most), (7, .int x2), (8, .int y11_8)] → W p l e (headSpec wsX9_rowRefusal { frames := 2, cells := 0, slots := 0, locals := 42 }).room s m ([.ref (a 43), .long row, .int n, .int i, .int least, .int most] : List Value).toArray below meth c H locs 0 0 (MQ below (va_Qi (fun (r : Int32) (u : US) => ((((r = 0) ∧ (least.toInt ≤ n.toInt) ∧ (n.toInt ≤ most.toInt) ∧ (-1 ≤ i.toInt)) ∨ ((r = (-2))) ∨ ((r = (-3))))) ∧ (rg 8 (0) (23) (u.1 0))) (Bw (dC, dI) A (fun u : US => (wsTo cI cZ cQ a rb0 rb1 rb2 db0 db1 db2 (u.1 0)))) A) ([.ref (a 43), .long row, .int n, .int i, .int least, .int most] : List Value).toArray s 0 0 A) (F0 m 11 ls []) := by
    intro nn
    induction nn with
    | zero =>
      intro y11_8 H locs ls i11_0 i11_1 i11_2 hm11
      exact absurd hm11 (Nat.not_lt_zero _)
    | succ nn ih11 =>
      intro y11_8 H locs ls i11_0 i11_1 i11_2 hm11 hP hD hS hl
      refine lv_iload hx hb dX9_rowRefusal_11 (lv_at hl 7 rfl) ?_
      refine lv_iload hx hb dX9_rowRefusal_13 (lv_at hl 6 rfl) ?_
      refine lv_icmp_ge (tgt := 39) hx hb dX9_rowRefusal_15 (by decide) (fun c3 => ?_) (fun c3 => ?_)
      · have dc3 : x2.toInt ≤ y11_8.toInt := leC rfl rfl c3
        refine lv_iload_n hx hb dX9_rowRefusal_39 rfl (lv_at hl 2 rfl) ?_
        refine lv_iload hx hb dX9_rowRefusal_40 (lv_at hl 4 rfl) ?_
        refine lv_iload hx hb dX9_rowRefusal_42 (lv_at hl 5 rfl) ?_
        refine rdS (As := [.int n, .int least, .int most]) (rest := []) ⟨hx, hb, hml, hown, hts⟩ (k_X9_within l dC dI cI cZ cQ n least most) (va_cwS 3 hts gX9_rowRefusal_X9_within rfl rfl rfl (by decide +kernel) ⟨Nat.le_of_ble_eq_true rfl, Nat.le_of_ble_eq_true rfl⟩) hP hK hN [] rfl rfl hl.1 rfl (Nat.le_of_ble_eq_true rfl) dX9_rowRefusal_44 ⟨Nat.le_of_ble_eq_true rfl, Nat.le_of_ble_eq_true rfl⟩ (fun r4 h5 => ?_)
        have h5 : ((((r4 = 1) ∧ (least.toInt ≤ n.toInt) ∧ (n.toInt ≤ most.toInt)) ∨ ((r4 = 0) ∧ (n.toInt < least.toInt ∨ most.toInt < n.toInt)))) := h5
        rcases h5 with (⟨rfl, h5_a0, h5_a1⟩ | ⟨rfl, h5_a0⟩)
        · refine lv_if_eq (tgt := 65) hx hb dX9_rowRefusal_47 (by decide) (fun c9 => absurd c9 (by decide)) (fun _ => ?_)
          refine lv_iload_n hx hb dX9_rowRefusal_50 rfl (lv_at hl 2 rfl) ?_
          refine lv_aload_n hx hb dX9_rowRefusal_51 rfl (lv_at hl 0 rfl) ?_
          refine va_get (D := (dC, dI)) (ci := 9) (v := .ref (a 42)) (C := RX9) (T := TX9) (N := 11) hx hb hts inX9 hown hK hP 0 rfl rfl 8 (by decide) lf69 (fun _ h9 => h9) rfl dX9_rowRefusal_52 ?_
          refine va_alen (v := 8) hx hb hK hP 1 0 rfl rfl rfl dX9_rowRefusal_55 ?_
          refine lv_icmp_gt (tgt := 65) hx hb dX9_rowRefusal_56 (by decide) (fun c6 => ?_) (fun c6 => ?_)
          · have dc6 : 8 < n.toInt := ltC (show (8 : Int32).toInt = 8 from rfl) rfl c6
            refine lv_bipush (v := (-3)) hx hb dX9_rowRefusal_65 (by decide) ?_
            exact W.iret (v := (-3)) hx hb hr (fun tq ht hW => ⟨⟨(-3), (uS [tol] 0 (fun _ => 0)), rfl, ⟨(Or.inr (Or.inr rfl)), r_tol⟩, by rw [ht]; exact hP, hD⟩, hS.F ht⟩) hS.2.2 dX9_rowRefusal_67
          · have dc6 : n.toInt ≤ 8 := nltC (show (8 : Int32).toInt = 8 from rfl) rfl c6
            refine lv_iload hx hb dX9_rowRefusal_59 (lv_at hl 3 rfl) ?_
            refine lv_iconst (v := (-1)) hx hb dX9_rowRefusal_61 (by decide) ?_
            refine lv_icmp_ge (tgt := 68) hx hb dX9_rowRefusal_62 (by decide) (fun c7 => ?_) (fun c7 => ?_)
            · have dc7 : (-1) ≤ i.toInt := leC (show ((-1) : Int32).toInt = (-1) from rfl) rfl c7
              refine lv_iconst (v := 0) hx hb dX9_rowRefusal_68 (by decide) ?_
              refine lv_istore (lv' := [(8, .int 0), (0, .ref (a 43)), (1, .long row), (3, .int n), (4, .int i), (5, .int least), (6, .int most), (7, .int x2)]) hx hb dX9_rowRefusal_69 hl (by decide) rfl (fun ls hl => ?_)
              refine lv_iconst (v := 0) hx hb dX9_rowRefusal_71 (by decide) ?_
              refine lv_istore (lv' := [(9, .int 0), (8, .int 0), (0, .ref (a 43)), (1, .long row), (3, .int n), (4, .int i), (5, .int least), (6, .int most), (7, .int x2)]) hx hb dX9_rowRefusal_72 hl (by decide) rfl (fun ls hl => ?_)
              have L74 : ∀ (nn : Nat) (y74_8 : Int32) (y74_9 : Int32) (tol_74 : Nat → Int32) (H : Heap) (locs : List Loc) (ls : Array Slot), (rg 8 (0) (23) tol_74) → (0 ≤ (y74_9.toInt)) → ((y74_9.toInt) ≤ 8) → (8 - (y74_9.toInt)).toNat < nn → va_P (dC, dI) vwCl (wsTo cI cZ cQ a rb0 rb1 rb2 db0 db1 db2 tol_74) H → va_D A (wsTo cI cZ cQ a rb0 rb1 rb2 db0 db1 db2 tol_74) → va_S A s.heap H locs → lv_has ls 11 [(0, .ref (a 43)), (1, .long row), (3, .int n), (8, .int y74_8), (9, .int y74_9)] → W p l e (headSpec wsX9_rowRefusal { frames := 2, cells := 0, slots := 0, locals := 42 }).room s m ([.ref (a 43), .long row, .int n, .int i, .int least, .int most] : List Value).toArray below meth c H locs 0 0 (MQ below (va_Qi (fun (r : Int32) (u : US) => ((((r = 0) ∧ (least.toInt ≤ n.toInt) ∧ (n.toInt ≤ most.toInt) ∧ (-1 ≤ i.toInt)) ∨ ((r = (-2))) ∨ ((r = (-3))))) ∧ (rg 8 (0) (23) (u.1 0))) (Bw (dC, dI) A (fun u : US => (wsTo cI cZ cQ a rb0 rb1 rb2 db0 db1 db2 (u.1 0)))) A) ([.ref (a 43), .long row, .int n, .int i, .int least, .int most] : List Value).toArray s 0 0 A) (F0 m 74 ls []) := by
                intro nn
                induction nn with
                | zero =>
                  intro y74_8 y74_9 tol_74 H locs ls r_tol_74 i74_0 i74_1 hm74
                  exact absurd hm74 (Nat.not_lt_zero _)
                | succ nn ih74 =>
                  intro y74_8 y74_9 tol_74 H locs ls r_tol_74 i74_0 i74_1 hm74 hP hD hS hl
                  refine lv_iload hx hb dX9_rowRefusal_74 (lv_at hl 4 rfl) ?_
                  refine lv_iload_n hx hb dX9_rowRefusal_76 rfl (lv_at hl 2 rfl) ?_
                  refine lv_icmp_ge (tgt := 126) hx hb dX9_rowRefusal_77 (by decide) (fun c8 => ?_) (fun c8 => ?_)
                  · have dc8 : n.toInt ≤ y74_9.toInt := leC rfl rfl c8
                    refine lv_iconst (v := 0) hx hb dX9_rowRefusal_126 (by decide) ?_
                    exact W.iret (v := 0) hx hb hr (fun tq ht hW => ⟨⟨0, (uS [tol_74] 0 (fun _ => 0)), rfl, ⟨(Or.inl (⟨rfl, (show least.toInt ≤ n.toInt from by (try rw [show (0 : Int32).toInt = 0 from (show (0 : Int32).toInt = 0 from rfl)]); omega), (show n.toInt ≤ most.toInt from by (try rw [show (0 : Int32).toInt = 0 from (show (0 : Int32).toInt = 0 from rfl)]); omega), (show -1 ≤ i.toInt from by (try rw [show (0 : Int32).toInt = 0 from (show (0 : Int32).toInt = 0 from rfl)]); omega)⟩)), r_tol_74⟩, by rw [ht]; exact hP, hD⟩, hS.F ht⟩) hS.2.2 dX9_rowRefusal_127
                  · have dc8 : y74_9.toInt < n.toInt := nleC rfl rfl c8
                    refine lv_lload_n hx hb dX9_rowRefusal_80 rfl (lv_at hl 1 rfl) ?_
                    refine lv_iload hx hb dX9_rowRefusal_81 (lv_at hl 4 rfl) ?_
                    refine rdS (As := [.long row, .int y74_9]) (rest := []) ⟨hx, hb, hml, hown, hts⟩ (k_X9_thingOf l dC dI cI cZ cQ row y74_9) (va_cwS 2 hts gX9_rowRefusal_X9_thingOf rfl rfl rfl (by decide +kernel) ⟨Nat.le_of_ble_eq_true rfl, Nat.le_of_ble_eq_true rfl⟩) hP hK hN [] rfl rfl hl.1 rfl (Nat.le_of_ble_eq_true rfl) dX9_rowRefusal_83 ⟨Nat.le_of_ble_eq_true rfl, Nat.le_of_ble_eq_true rfl⟩ (fun r9 h10 => ?_)
                    have h10 : ((thF row y74_9).toInt = r9.toInt) ∧ (0 ≤ r9.toInt) ∧ (r9.toInt ≤ 31) := h10
                    obtain ⟨h10_0, h10_1, h10_2⟩ := h10
                    refine lv_istore (lv' := [(10, .int r9), (0, .ref (a 43)), (1, .long row), (3, .int n), (8, .int y74_8), (9, .int y74_9)]) hx hb dX9_rowRefusal_86 hl (by decide) rfl (fun ls hl => ?_)
                    have kk := i11_2 y74_9.toInt.toNat (by omega)
                    rw [nI_toNat (by omega)] at kk
                    refine lv_iload hx hb dX9_rowRefusal_88 (lv_at hl 4 rfl) ?_
                    refine lv_iload hx hb dX9_rowRefusal_90 (lv_at hl 0 rfl) ?_
                    refine lv_ishr hx hb dX9_rowRefusal_92 ?_
                    refine lv_iconst (v := 1) hx hb dX9_rowRefusal_93 (by decide) ?_
                    refine lv_iand hx hb dX9_rowRefusal_94 ?_
                    have f11 := andR (a := (y74_8 >>> (r9 &&& 31))) (m := 1) (M := 1) rfl (by decide)
                    refine lv_iconst (v := 1) hx hb dX9_rowRefusal_95 (by decide) ?_
                    refine lv_icmp_ne (tgt := 102) hx hb dX9_rowRefusal_96 (by decide) (fun c12 => ?_) (fun c12 => ?_)
                    · have dc12 : ((y74_8 >>> (r9 &&& 31)) &&& 1).toInt ≤ 0 := ka_hi (by omega) (neC rfl (show (1 : Int32).toInt = 1 from rfl) c12)
                      refine lv_iload hx hb dX9_rowRefusal_102 (lv_at hl 4 rfl) ?_
                      refine lv_iconst (v := 1) hx hb dX9_rowRefusal_104 (by decide) ?_
                      refine lv_iload hx hb dX9_rowRefusal_105 (lv_at hl 0 rfl) ?_
                      refine lv_ishl hx hb dX9_rowRefusal_107 ?_
                      refine lv_ior hx hb dX9_rowRefusal_108 ?_
                      refine lv_topi (fun x13 ex13 => ?_)
                      have ix13 : x13.toInt = (y74_8 ||| ((1 : Int32) <<< (r9 &&& 31))).toInt := by rw [ex13]
                      refine lv_istore (lv' := [(8, .int x13), (10, .int r9), (0, .ref (a 43)), (1, .long row), (3, .int n), (9, .int y74_9)]) hx hb dX9_rowRefusal_109 hl (by decide) rfl (fun ls hl => ?_)
                      refine lv_aload_n hx hb dX9_rowRefusal_111 rfl (lv_at hl 2 rfl) ?_
                      refine va_get (D := (dC, dI)) (ci := 9) (v := .ref (a 42)) (C := RX9) (T := TX9) (N := 11) hx hb hts inX9 hown hK hP 0 rfl rfl 8 (by decide) lf69 (fun _ h9 => h9) rfl dX9_rowRefusal_112 ?_
                      refine lv_iload hx hb dX9_rowRefusal_115 (lv_at hl 5 rfl) ?_
                      refine lv_iload hx hb dX9_rowRefusal_117 (lv_at hl 1 rfl) ?_
                      have b14 : vp_in y74_9 8 := inC rfl (by omega) (by omega)
                      have g15 : rg 8 (0) (23) (upd tol_74 y74_9.toNatClampNeg r9) := rg_upd r_tol_74 rfl (by omega) (by omega)
                      refine va_iast hx hb hK hP hD hS 1 0 rfl rfl b14 dX9_rowRefusal_119 (fun H locs hP hD hS => ?_)
                      obtain ⟨tol_u16, etol_u16⟩ : ∃ f : Nat → Int32, f = upd tol_74 y74_9.toNatClampNeg r9 := ⟨_, rfl⟩
                      have rtol_u16 : rg 8 (0) (23) tol_u16 := by rw [etol_u16]; exact g15
                      have hP : va_P (dC, dI) vwCl (wsTo cI cZ cQ a rb0 rb1 rb2 db0 db1 db2 tol_u16) H := by rw [etol_u16]; exact hP
                      have hD : va_D A (wsTo cI cZ cQ a rb0 rb1 rb2 db0 db1 db2 tol_u16) := by rw [etol_u16]; exact hD
                      obtain ⟨z17, ez17⟩ : ∃ y : Int32, y = y74_9 + 1 := ⟨_, rfl⟩
                      have iz17 : z17.toInt = y74_9.toInt + 1 := by rw [ez17]; exact addC rfl rfl (by omega) (by omega)
                      refine lv_iinc (v := z17) (lv' := [(9, .int z17), (8, .int x13), (10, .int r9), (0, .ref (a 43)), (1, .long row), (3, .int n)]) hx hb dX9_rowRefusal_120 hl (k := 5) rfl (by rw [ez17]; rfl) (by decide) rfl (fun ls hl => ?_)
                      refine lv_goto (tgt := 74) hx hb dX9_rowRefusal_123 (by decide) ?_
                      exact ih74 x13 z17 tol_u16 _ _ _ rtol_u16 (by omega) (by omega) (by omega) hP hD hS (lv_sub hl [3, 4, 5, 1, 0] rfl)
                    · have dc12 : ((y74_8 >>> (r9 &&& 31)) &&& 1).toInt = 1 := eqC rfl (show (1 : Int32).toInt = 1 from rfl) c12
                      refine lv_bipush (v := (-3)) hx hb dX9_rowRefusal_99 (by decide) ?_
                      exact W.iret (v := (-3)) hx hb hr (fun tq ht hW => ⟨⟨(-3), (uS [tol_74] 0 (fun _ => 0)), rfl, ⟨(Or.inr (Or.inr rfl)), r_tol_74⟩, by rw [ht]; exact hP, hD⟩, hS.F ht⟩) hS.2.2 dX9_rowRefusal_101
              have kc18 : (0 : Int32).toInt = 0 := rfl
              exact L74 _ 0 0 tol _ _ _ r_tol (by omega) (by omega) (Nat.lt_succ_self _) hP hD hS (lv_sub hl [2, 3, 4, 1, 0] rfl)
            · have dc7 : i.toInt < (-1) := nleC (show ((-1) : Int32).toInt = (-1) from rfl) rfl c7
              refine lv_bipush (v := (-3)) hx hb dX9_rowRefusal_65 (by decide) ?_
              exact W.iret (v := (-3)) hx hb hr (fun tq ht hW => ⟨⟨(-3), (uS [tol] 0 (fun _ => 0)), rfl, ⟨(Or.inr (Or.inr rfl)), r_tol⟩, by rw [ht]; exact hP, hD⟩, hS.F ht⟩) hS.2.2 dX9_rowRefusal_67
        · refine lv_if_eq (tgt := 65) hx hb dX9_rowRefusal_47 (by decide) (fun _ => ?_) (fun c9 => absurd (by decide) c9)
          refine lv_bipush (v := (-3)) hx hb dX9_rowRefusal_65 (by decide) ?_
          exact W.iret (v := (-3)) hx hb hr (fun tq ht hW => ⟨⟨(-3), (uS [tol] 0 (fun _ => 0)), rfl, ⟨(Or.inr (Or.inr rfl)), r_tol⟩, by rw [ht]; exact hP, hD⟩, hS.F ht⟩) hS.2.2 dX9_rowRefusal_67
      · have dc3 : y11_8.toInt < x2.toInt := nleC rfl rfl c3
        refine lv_lload_n hx hb dX9_rowRefusal_18 rfl (lv_at hl 1 rfl) ?_
        refine lv_iload hx hb dX9_rowRefusal_19 (lv_at hl 7 rfl) ?_
        refine rdS (As := [.long row, .int y11_8]) (rest := []) ⟨hx, hb, hml, hown, hts⟩ (k_X9_thingOf l dC dI cI cZ cQ row y11_8) (va_cwS 2 hts gX9_rowRefusal_X9_thingOf rfl rfl rfl (by decide +kernel) ⟨Nat.le_of_ble_eq_true rfl, Nat.le_of_ble_eq_true rfl⟩) hP hK hN [] rfl rfl hl.1 rfl (Nat.le_of_ble_eq_true rfl) dX9_rowRefusal_21 ⟨Nat.le_of_ble_eq_true rfl, Nat.le_of_ble_eq_true rfl⟩ (fun r19 h20 => ?_)
        have h20 : ((thF row y11_8).toInt = r19.toInt) ∧ (0 ≤ r19.toInt) ∧ (r19.toInt ≤ 31) := h20
        obtain ⟨h20_0, h20_1, h20_2⟩ := h20
        refine rdS (As := [.int r19]) (rest := []) ⟨hx, hb, hml, hown, hts⟩ (k_X9_isThing l dC dI cI cZ cQ r19) (va_cwS 1 hts gX9_rowRefusal_X9_isThing rfl rfl rfl (by decide +kernel) ⟨Nat.le_of_ble_eq_true rfl, Nat.le_of_ble_eq_true rfl⟩) hP hK hN [] rfl rfl hl.1 rfl (Nat.le_of_ble_eq_true rfl) dX9_rowRefusal_24 ⟨Nat.le_of_ble_eq_true rfl, Nat.le_of_ble_eq_true rfl⟩ (fun r21 h22 => ?_)
        have h22 : ((((r21 = 1) ∧ (0 ≤ r19.toInt) ∧ (r19.toInt ≤ 23)) ∨ ((r21 = 0) ∧ (r19.toInt < 0 ∨ 23 < r19.toInt)))) := h22
        rcases h22 with (⟨rfl, h22_a0, h22_a1⟩ | ⟨rfl, h22_a0⟩)
        · refine lv_if_ne (tgt := 33) hx hb dX9_rowRefusal_27 (by decide) (fun _ => ?_) (fun c9 => absurd c9 (by decide))
          obtain ⟨z23, ez23⟩ : ∃ y : Int32, y = y11_8 + 1 := ⟨_, rfl⟩
          have iz23 : z23.toInt = y11_8.toInt + 1 := by rw [ez23]; exact addC rfl rfl (by omega) (by omega)
          refine lv_iinc (v := z23) (lv' := [(8, .int z23), (0, .ref (a 43)), (1, .long row), (3, .int n), (4, .int i), (5, .int least), (6, .int most), (7, .int x2)]) hx hb dX9_rowRefusal_33 hl (k := 7) rfl (by rw [ez23]; rfl) (by decide) rfl (fun ls hl => ?_)
          refine lv_goto (tgt := 11) hx hb dX9_rowRefusal_36 (by decide) ?_
          exact ih11 z23 _ _ _ (by omega) (by omega) (by (first | (intro j hj; by_cases e : (j : Int) = y11_8.toInt <;> first | exact i11_2 j (by omega) | (have ej : nI j = y11_8 := (by have := nI_toNat (y := y11_8) (by omega); rw [← this]; congr 1; omega); rw [ej]; omega)) | (intro j hj; omega))) (by omega) hP hD hS (lv_sub hl [1, 2, 3, 4, 5, 6, 7, 0] rfl)
        · refine lv_if_ne (tgt := 33) hx hb dX9_rowRefusal_27 (by decide) (fun c9 => absurd (by decide) c9) (fun _ => ?_)
          refine lv_bipush (v := (-2)) hx hb dX9_rowRefusal_30 (by decide) ?_
          exact W.iret (v := (-2)) hx hb hr (fun tq ht hW => ⟨⟨(-2), (uS [tol] 0 (fun _ => 0)), rfl, ⟨(Or.inr (Or.inl rfl)), r_tol⟩, by rw [ht]; exact hP, hD⟩, hS.F ht⟩) hS.2.2 dX9_rowRefusal_32
  have kc24 : (0 : Int32).toInt = 0 := rfl
  exact L11 _ 0 _ _ _ (by omega) (by omega) (by (first | (intro j hj; omega) | (intro j hj; by_cases e : (j : Int) = y11_8.toInt <;> first | exact i11_2 j (by omega) | (have ej : nI j = y11_8 := (by have := nI_toNat (y := y11_8) (by omega); rw [← this]; congr 1; omega); rw [ej]; omega)))) (Nat.lt_succ_self _) hP hD hS (lv_sub hl [2, 3, 4, 5, 6, 7, 1, 0] rfl)
set_option maxHeartbeats 4000000 in
set_option maxRecDepth 100000 in
theorem k_X9_laid (l : Launch) (dC : Nat → ClassId) (dI : Nat → Nat → Nat) (cI cZ cQ : ClassId) (a : Nat → Nat) (rb0 : Nat) (rb1 : Nat) (rb2 : Nat) (db0 : Nat) (db1 : Nat) (db2 : Nat) (sor : Nat → Int32) (ord : Nat → Int32) (sha : Nat → Int32) (toc : Nat → Int32) (mar : Nat → Int32) (tol : Nat → Int32) (sz : Nat) (row : Int64) (n : Int32) (i : Int32) (r_sor : rg 8 (0) (23) sor) (r_mar : rg 24 (0) (255) mar) (r_tol : rg 8 (0) (23) tol) : KW l yX9_laid wsX9_laid { frames := 5, cells := 0, slots := 0, locals := 120 } (dC, dI) (TY cI cZ cQ) (wsSp cI cZ cQ a rb0 rb1 rb2 db0 db1 db2 sor ord sha toc mar tol) [.ref (a 43), .long row, .int n, .int i] sz 0 0 (fun (r : Int32) (u : US) => (rg 8 (0) (23) (u.1 0)) ∧ (rg 8 (0) (23) (u.1 1))) (fun u : US => (wsSp cI cZ cQ a rb0 rb1 rb2 db0 db1 db2 (u.1 1) (u.1 2) (u.1 3) (u.1 4) mar (u.1 0))) := by
  refine Met.ofW (cc := cX9_laid) (maxL := 7) (ret := (some .int)) (by decide) rfl ?_
  intro p e s m args below meth c s₁ B hml hv
  obtain ⟨rfl, hsz, hP, hK, hD0, hN⟩ := hv
  have hx := B.exec
  have hb := B.bytes
  have hr := B.returns
  have hts := atoms_spec (ws := wsX9_laid) B.pre
  have hown : s.vm.findClass RX9 = some m.cls := findClass_of_methodNamed B.named
  have hlocks := B.notSynchronized
  have lf51 := hts (.fieldLink RX9 51 "PalaceOfRooms" "speech" "LPalaceOfRooms$Speech;") (List.mem_cons_of_mem _ (List.mem_append_left _ (List.mem_append_left _ (List.mem_append_left _ (List.mem_append_left _ (List.mem_of_getElem? (i := 0) rfl))))))
  have inX9 : ∀ w ∈ wsX90, w ∈ wsX9_laid := fun w h => List.mem_cons_of_mem _ (List.mem_append_left _ (List.mem_append_left _ (List.mem_append_right _ h)))
  have lf69 := hts (.fieldLink RX9 69 "PalaceOfRooms" "told" "[I") (List.mem_cons_of_mem _ (List.mem_append_left _ (List.mem_append_left _ (List.mem_append_left _ (List.mem_append_left _ (List.mem_of_getElem? (i := 1) rfl))))))
  have lf197 := hN.use (w := .fieldLinkNest "PalaceOfRooms" 197 "PalaceOfRooms$Speech" "order" "[I" "PalaceOfRooms") (List.mem_of_getElem? (i := 17) rfl) ([.ref (a 43), .long row, .int n, .int i] : List Value).toArray
  have inX6 : ∀ w ∈ wsX60, w ∈ wsX9_laid := fun w h => List.mem_cons_of_mem _ (List.mem_append_left _ (List.mem_append_right _ h))
  subst hsz
  have hD := hD0.self (sz := s.heap.size)
  generalize hAe : va_A (wsSp cI cZ cQ a rb0 rb1 rb2 db0 db1 db2 sor ord sha toc mar tol) s.heap.size = A at hD ⊢
  have hA : ∀ q : Nat, s.heap.size ≤ q → A q := fun q h => by rw [← hAe]; exact Or.inr h
  have hS : va_S A s.heap s.heap [] := va_S.rf
  have hl := lv_entry ([.ref (a 43), .long row, .int n, .int i]) (n := 7) (Nat.le_of_ble_eq_true rfl)
  rw [lg_entry_eq]
  generalize (lg_sl ([.ref (a 43), .long row, .int n, .int i]) ++ List.replicate (7 - (lg_sl ([.ref (a 43), .long row, .int n, .int i])).length) Slot.unset).toArray = ls at hl ⊢
  have hl : lv_has ls 7 [(0, .ref (a 43)), (1, .long row), (3, .int n), (4, .int i)] := hl
  refine lv_aload_n hx hb dX9_laid_0 rfl (lv_at hl 0 rfl) ?_
  refine lv_lload_n hx hb dX9_laid_1 rfl (lv_at hl 1 rfl) ?_
  refine lv_iload_n hx hb dX9_laid_2 rfl (lv_at hl 2 rfl) ?_
  refine lv_iload hx hb dX9_laid_3 (lv_at hl 3 rfl) ?_
  refine lv_iconst (v := 1) hx hb dX9_laid_5 (by decide) ?_
  refine lv_bipush (v := 8) hx hb dX9_laid_6 (by decide) ?_
  have kc1 : (1 : Int32).toInt = 1 := rfl
  have kc8 : (8 : Int32).toInt = 8 := rfl
  refine wrV (As := [.long row, .int n, .int i, .int 1, .int 8]) (rest := []) (wr := [((a 23), .inr (6, [.ref (a 2), .ref (a 24), .ref (a 25), .ref (a 26), .ref (a 27)])), ((a 24), .inl (cI, 8, .inl sor)), ((a 25), .inl (cI, 8, .inl ord)), ((a 26), .inl (cI, 64, .inl sha)), ((a 27), .inl (cI, 2048, .inl toc)), ((a 2), .inr (2, [.ref (a 3)])), ((a 3), .inl (cI, 24, .inl mar))]) (w2 := (fun u : US => (wsSp cI cZ cQ a rb0 rb1 rb2 db0 db1 db2 sor ord sha toc mar (u.1 0)))) ⟨hx, hb, hml, hown, hts⟩ (k_X9_rowRefusal l dC dI cI cZ cQ a rb0 rb1 rb2 db0 db1 db2 tol _ row n i (1 : Int32) (8 : Int32) r_tol (by omega) (by omega)) (cwV 5 hts gX9_laid_X9_rowRefusal rfl rfl rfl (by decide +kernel) ⟨Nat.le_of_ble_eq_true rfl, Nat.le_of_ble_eq_true rfl⟩) hP hD hS hA hK hN [0, 8] [1, 2, 3, 4, 5, 6, 7] [7, 0, 1, 2, 3, 4, 5, 6, 8] rfl rfl (by decide) (by decide) (by decide) (fun _ => rfl) (by decide) 0 9 rfl rfl rfl hl.1 rfl (Nat.le_of_ble_eq_true rfl) dX9_laid_8 ⟨Nat.le_of_ble_eq_true rfl, Nat.le_of_ble_eq_true rfl⟩ (fun r1 u3 H locs h2 hP hD hS => ?_)
  obtain ⟨tol_c4, etol_c4⟩ : ∃ f : Nat → Int32, f = (u3.1 0) := ⟨_, rfl⟩
  have hP : va_P (dC, dI) vwCl (wsSp cI cZ cQ a rb0 rb1 rb2 db0 db1 db2 sor ord sha toc mar tol_c4) H := by rw [etol_c4]; exact hP
  have hD : va_D A (wsSp cI cZ cQ a rb0 rb1 rb2 db0 db1 db2 sor ord sha toc mar tol_c4) := by rw [etol_c4]; exact hD
  have h2 : ((((r1 = 0) ∧ ((1) ≤ n.toInt) ∧ (n.toInt ≤ (8)) ∧ (-1 ≤ i.toInt)) ∨ ((r1 = (-2))) ∨ ((r1 = (-3))))) ∧ (rg 8 (0) (23) tol_c4) := by (try rw [etol_c4]); exact h2
  rcases h2 with ⟨(⟨rfl, h2_a0, h2_a1, h2_a2⟩ | rfl | rfl), h2_0⟩
  · refine lv_istore (lv' := [(5, .int 0), (0, .ref (a 43)), (1, .long row), (3, .int n), (4, .int i)]) hx hb dX9_laid_11 hl (by decide) rfl (fun ls hl => ?_)
    refine lv_iload hx hb dX9_laid_13 (lv_at hl 0 rfl) ?_
    refine lv_if_eq (tgt := 21) hx hb dX9_laid_15 (by decide) (fun _ => ?_) (fun c9 => absurd (by decide) c9)
    refine lv_iload hx hb dX9_laid_21 (lv_at hl 4 rfl) ?_
    refine lv_iload_n hx hb dX9_laid_23 rfl (lv_at hl 3 rfl) ?_
    refine lv_icmp_lt (tgt := 29) hx hb dX9_laid_24 (by decide) (fun c5 => ?_) (fun c5 => ?_)
    · have dc5 : i.toInt < n.toInt := ltC rfl rfl c5
      refine lv_aload_n hx hb dX9_laid_29 rfl (lv_at hl 1 rfl) ?_
      refine va_get (D := (dC, dI)) (ci := 9) (v := .ref (a 23)) (C := RX9) (T := TX9) (N := 11) hx hb hts inX9 hown hK hP 0 rfl rfl 5 (by decide) lf51 (fun _ h9 => h9) rfl dX9_laid_30 ?_
      refine lv_aload_n hx hb dX9_laid_33 rfl (lv_at hl 1 rfl) ?_
      refine va_get (D := (dC, dI)) (ci := 9) (v := .ref (a 42)) (C := RX9) (T := TX9) (N := 11) hx hb hts inX9 hown hK hP 0 rfl rfl 8 (by decide) lf69 (fun _ h9 => h9) rfl dX9_laid_34 ?_
      refine lv_iload_n hx hb dX9_laid_37 rfl (lv_at hl 3 rfl) ?_
      refine wrV (As := [.ref (a 42), .int n]) (rest := []) (wr := [((a 43), .inr (9, [.ref (a 0), .ref (a 2), .ref (a 4), .ref (a 14), .ref (a 16), .ref (a 23), .ref (a 28), .ref (a 33), .ref (a 42), .ref rb0, .ref db0]))]) (w2 := (fun u : US => (wsSp cI cZ cQ a rb0 rb1 rb2 db0 db1 db2 (u.1 0) (u.1 1) (u.1 2) (u.1 3) mar tol_c4))) ⟨hx, hb, hml, hown, hts⟩ (k_X6_layOut l dC dI cI cZ cQ a sor ord sha toc mar tol_c4 _ n r_sor r_mar h2_0 (by omega) (by omega)) (cwV 2 hts gX9_laid_X6_layOut rfl rfl rfl (by decide +kernel) ⟨Nat.le_of_ble_eq_true rfl, Nat.le_of_ble_eq_true rfl⟩) hP hD hS hA hK hN [1, 2, 3, 4, 5, 6, 7, 8] [0] [0, 1, 2, 3, 4, 5, 6, 7, 8] rfl rfl (by decide) (by decide) (by decide) (fun _ => rfl) (by decide) 1 6 rfl rfl rfl hl.1 rfl (Nat.le_of_ble_eq_true rfl) dX9_laid_38 ⟨Nat.le_of_ble_eq_true rfl, Nat.le_of_ble_eq_true rfl⟩ (fun r6 u8 H locs h7 hP hD hS => ?_)
      obtain ⟨sor_c9, esor_c9⟩ : ∃ f : Nat → Int32, f = (u8.1 0) := ⟨_, rfl⟩
      obtain ⟨ord_c10, eord_c10⟩ : ∃ f : Nat → Int32, f = (u8.1 1) := ⟨_, rfl⟩
      obtain ⟨sha_c11, esha_c11⟩ : ∃ f : Nat → Int32, f = (u8.1 2) := ⟨_, rfl⟩
      obtain ⟨toc_c12, etoc_c12⟩ : ∃ f : Nat → Int32, f = (u8.1 3) := ⟨_, rfl⟩
      have hP : va_P (dC, dI) vwCl (wsSp cI cZ cQ a rb0 rb1 rb2 db0 db1 db2 sor_c9 ord_c10 sha_c11 toc_c12 mar tol_c4) H := by rw [esor_c9, eord_c10, esha_c11, etoc_c12]; exact hP
      have hD : va_D A (wsSp cI cZ cQ a rb0 rb1 rb2 db0 db1 db2 sor_c9 ord_c10 sha_c11 toc_c12 mar tol_c4) := by rw [esor_c9, eord_c10, esha_c11, etoc_c12]; exact hD
      have h7 : (rg 8 (0) (23) sor_c9) := by (try rw [esor_c9]); (try rw [eord_c10]); (try rw [esha_c11]); (try rw [etoc_c12]); exact h7
      have h7_0 := h7
      refine lv_istore (lv' := [(6, .int r6), (5, .int 0), (0, .ref (a 43)), (1, .long row), (3, .int n), (4, .int i)]) hx hb dX9_laid_41 hl (by decide) rfl (fun ls hl => ?_)
      refine lv_iload hx hb dX9_laid_43 (lv_at hl 5 rfl) ?_
      refine lv_if_ge (tgt := 53) hx hb dX9_laid_45 (by decide) (fun c13 => ?_) (fun c13 => ?_)
      · have dc13 : 0 ≤ i.toInt := leC (show (0 : Int32).toInt = 0 from rfl) rfl c13
        refine lv_aload_n hx hb dX9_laid_53 rfl (lv_at hl 2 rfl) ?_
        refine va_get (D := (dC, dI)) (ci := 9) (v := .ref (a 23)) (C := RX9) (T := TX9) (N := 11) hx hb hts inX9 hown hK hP 0 rfl rfl 5 (by decide) lf51 (fun _ h9 => h9) rfl dX9_laid_54 ?_
        refine va_getN (D := (dC, dI)) (ci := 6) (v := .ref (a 25)) (C := RX6) (T := TX6) (N := 5) hx hb hts inX6 hown hK hP 1 rfl rfl 2 (by decide) lf197 (fun _ h9 => h9) rfl dX9_laid_57 ?_
        refine lv_iload hx hb dX9_laid_60 (lv_at hl 5 rfl) ?_
        have b14 : vp_in i 8 := inC rfl (by omega) (by omega)
        refine va_iald hx hb hK hP 3 0 rfl rfl b14 dX9_laid_62 ?_
        exact W.iret (v := ord_c10 i.toNatClampNeg) hx hb hr (fun tq ht hW => ⟨⟨ord_c10 i.toNatClampNeg, (uS [tol_c4, sor_c9, ord_c10, sha_c11, toc_c12] 0 (fun _ => 0)), rfl, ⟨h2_0, h7_0⟩, by rw [ht]; exact hP, hD⟩, hS.F ht⟩) hS.2.2 dX9_laid_63
      · have dc13 : i.toInt < 0 := nleC (show (0 : Int32).toInt = 0 from rfl) rfl c13
        refine lv_iload hx hb dX9_laid_48 (lv_at hl 0 rfl) ?_
        refine lv_goto (tgt := 63) hx hb dX9_laid_50 (by decide) ?_
        exact W.iret (v := r6) hx hb hr (fun tq ht hW => ⟨⟨r6, (uS [tol_c4, sor_c9, ord_c10, sha_c11, toc_c12] 0 (fun _ => 0)), rfl, ⟨h2_0, h7_0⟩, by rw [ht]; exact hP, hD⟩, hS.F ht⟩) hS.2.2 dX9_laid_63
    · have dc5 : n.toInt ≤ i.toInt := nltC rfl rfl c5
      refine lv_iconst (v := (-1)) hx hb dX9_laid_27 (by decide) ?_
      exact W.iret (v := (-1)) hx hb hr (fun tq ht hW => ⟨⟨(-1), (uS [tol_c4, sor, ord, sha, toc] 0 (fun _ => 0)), rfl, ⟨h2_0, r_sor⟩, by rw [ht]; exact hP, hD⟩, hS.F ht⟩) hS.2.2 dX9_laid_28
  · refine lv_istore (lv' := [(5, .int (-2)), (0, .ref (a 43)), (1, .long row), (3, .int n), (4, .int i)]) hx hb dX9_laid_11 hl (by decide) rfl (fun ls hl => ?_)
    refine lv_iload hx hb dX9_laid_13 (lv_at hl 0 rfl) ?_
    refine lv_if_eq (tgt := 21) hx hb dX9_laid_15 (by decide) (fun c9 => absurd c9 (by decide)) (fun _ => ?_)
    refine lv_iload hx hb dX9_laid_18 (lv_at hl 0 rfl) ?_
    exact W.iret (v := (-2)) hx hb hr (fun tq ht hW => ⟨⟨(-2), (uS [tol_c4, sor, ord, sha, toc] 0 (fun _ => 0)), rfl, ⟨h2_0, r_sor⟩, by rw [ht]; exact hP, hD⟩, hS.F ht⟩) hS.2.2 dX9_laid_20
  · refine lv_istore (lv' := [(5, .int (-3)), (0, .ref (a 43)), (1, .long row), (3, .int n), (4, .int i)]) hx hb dX9_laid_11 hl (by decide) rfl (fun ls hl => ?_)
    refine lv_iload hx hb dX9_laid_13 (lv_at hl 0 rfl) ?_
    refine lv_if_eq (tgt := 21) hx hb dX9_laid_15 (by decide) (fun c9 => absurd c9 (by decide)) (fun _ => ?_)
    refine lv_iload hx hb dX9_laid_18 (lv_at hl 0 rfl) ?_
    exact W.iret (v := (-3)) hx hb hr (fun tq ht hW => ⟨⟨(-3), (uS [tol_c4, sor, ord, sha, toc] 0 (fun _ => 0)), rfl, ⟨h2_0, r_sor⟩, by rw [ht]; exact hP, hD⟩, hS.F ht⟩) hS.2.2 dX9_laid_20
end
section
def aF (a0 a1 a2 a3 : Int32) : Nat → Int32 := fun j => ([a0, a1, a2, a3] : List Int32).getD j 0
theorem aF_u0 {a0 a1 a2 a3 z : Int32} (h : z = a0 + 1) : aF z a1 a2 a3 = upd (aF a0 a1 a2 a3) (0 : Int32).toNatClampNeg (aF a0 a1 a2 a3 (0 : Int32).toNatClampNeg + 1) := by
  subst h
  funext j
  rw [show (0 : Int32).toNatClampNeg = 0 from rfl]
  by_cases e : j = 0
  · subst e; rw [pk_us]; rfl
  · rw [pk_un e]
    match j, e with
    | 0, e => exact absurd rfl e
    | 1, e => rfl
    | 2, e => rfl
    | 3, e => rfl
    | k + 4, _ => rfl
theorem aF_u1 {a0 a1 a2 a3 z : Int32} (h : z = a1 + 1) : aF a0 z a2 a3 = upd (aF a0 a1 a2 a3) (1 : Int32).toNatClampNeg (aF a0 a1 a2 a3 (1 : Int32).toNatClampNeg + 1) := by
  subst h
  funext j
  rw [show (1 : Int32).toNatClampNeg = 1 from rfl]
  by_cases e : j = 1
  · subst e; rw [pk_us]; rfl
  · rw [pk_un e]
    match j, e with
    | 0, e => rfl
    | 1, e => exact absurd rfl e
    | 2, e => rfl
    | 3, e => rfl
    | k + 4, _ => rfl
theorem aF_u2 {a0 a1 a2 a3 z : Int32} (h : z = a2 + 1) : aF a0 a1 z a3 = upd (aF a0 a1 a2 a3) (2 : Int32).toNatClampNeg (aF a0 a1 a2 a3 (2 : Int32).toNatClampNeg + 1) := by
  subst h
  funext j
  rw [show (2 : Int32).toNatClampNeg = 2 from rfl]
  by_cases e : j = 2
  · subst e; rw [pk_us]; rfl
  · rw [pk_un e]
    match j, e with
    | 0, e => rfl
    | 1, e => rfl
    | 2, e => exact absurd rfl e
    | 3, e => rfl
    | k + 4, _ => rfl
theorem aF_u3 {a0 a1 a2 a3 z : Int32} (h : z = a3 + 1) : aF a0 a1 a2 z = upd (aF a0 a1 a2 a3) (3 : Int32).toNatClampNeg (aF a0 a1 a2 a3 (3 : Int32).toNatClampNeg + 1) := by
  subst h
  funext j
  rw [show (3 : Int32).toNatClampNeg = 3 from rfl]
  by_cases e : j = 3
  · subst e; rw [pk_us]; rfl
  · rw [pk_un e]
    match j, e with
    | 0, e => rfl
    | 1, e => rfl
    | 2, e => rfl
    | 3, e => exact absurd rfl e
    | k + 4, _ => rfl
set_option maxHeartbeats 4000000 in
set_option maxRecDepth 100000 in
theorem k_X9_figures (l : Launch) (dC : Nat → ClassId) (dI : Nat → Nat → Nat) (cI cZ cQ : ClassId) (a : Nat → Nat) (rb0 : Nat) (rb1 : Nat) (rb2 : Nat) (db0 : Nat) (db1 : Nat) (db2 : Nat) (ali : Nat → Int32) (thi : Nat → Int32) (ctr : Nat → Int32) (cbe : Nat → Int32) (har : Int32) (mar : Nat → Int32) (tol : Nat → Int32) (sz : Nat) (x : Int32) (y : Int32) (v : Int32) (r_thi : rg 8 (0) (23) thi) (r_ctr : rg 6 (0) (23) ctr) (r_mar : rg 24 (0) (255) mar) (r_tol : rg 8 (0) (23) tol) : KW l yX9_figures wsX9_figures { frames := 2, cells := 0, slots := 0, locals := 42 } (dC, dI) (TY cI cZ cQ) (wsCd cI cZ cQ a rb0 rb1 rb2 db0 db1 db2 ali thi ctr cbe har mar tol) [.ref (a 43), .int x, .int y, .int v] sz 0 0 (fun (r : Int32) (u : US) => (spFig ali x y v r (u.1 0))) (fun u : US => (wsCd cI cZ cQ a rb0 rb1 rb2 db0 db1 db2 (u.1 0) thi ctr cbe har mar tol)) := by
  refine Met.ofW (cc := cX9_figures) (maxL := 4) (ret := (some .int)) (by decide) rfl ?_
  intro p e s m args below meth c s₁ B hml hv
  obtain ⟨rfl, hsz, hP, hK, hD0, hN⟩ := hv
  have hx := B.exec
  have hb := B.bytes
  have hr := B.returns
  have hts := atoms_spec (ws := wsX9_figures) B.pre
  have hown : s.vm.findClass RX9 = some m.cls := findClass_of_methodNamed B.named
  have hlocks := B.notSynchronized
  have lf58 := hts (.fieldLink RX9 58 "PalaceOfRooms" "codes" "LPalaceOfRooms$Codes;") (List.mem_cons_of_mem _ (List.mem_append_left _ (List.mem_append_left _ (List.mem_of_getElem? (i := 0) rfl))))
  have inX9 : ∀ w ∈ wsX90, w ∈ wsX9_figures := fun w h => List.mem_cons_of_mem _ (List.mem_append_left _ (List.mem_append_right _ h))
  subst hsz
  have hD := hD0.self (sz := s.heap.size)
  generalize hAe : va_A (wsCd cI cZ cQ a rb0 rb1 rb2 db0 db1 db2 ali thi ctr cbe har mar tol) s.heap.size = A at hD ⊢
  have hA : ∀ q : Nat, s.heap.size ≤ q → A q := fun q h => by rw [← hAe]; exact Or.inr h
  have hS : va_S A s.heap s.heap [] := va_S.rf
  have hl := lv_entry ([.ref (a 43), .int x, .int y, .int v]) (n := 4) (Nat.le_of_ble_eq_true rfl)
  rw [lg_entry_eq]
  generalize (lg_sl ([.ref (a 43), .int x, .int y, .int v]) ++ List.replicate (4 - (lg_sl ([.ref (a 43), .int x, .int y, .int v])).length) Slot.unset).toArray = ls at hl ⊢
  have hl : lv_has ls 4 [(0, .ref (a 43)), (1, .int x), (2, .int y), (3, .int v)] := hl
  refine lv_iload_n hx hb dX9_figures_0 rfl (lv_at hl 1 rfl) ?_
  refine rdS (As := [.int x]) (rest := []) ⟨hx, hb, hml, hown, hts⟩ (k_X9_isFigure l dC dI cI cZ cQ x) (va_cwS 1 hts gX9_figures_X9_isFigure rfl rfl rfl (by decide +kernel) ⟨Nat.le_of_ble_eq_true rfl, Nat.le_of_ble_eq_true rfl⟩) hP hK hN [] rfl rfl hl.1 rfl (Nat.le_of_ble_eq_true rfl) dX9_figures_1 ⟨Nat.le_of_ble_eq_true rfl, Nat.le_of_ble_eq_true rfl⟩ (fun r1 h2 => ?_)
  have h2 : ((((r1 = 1) ∧ (0 ≤ x.toInt) ∧ (x.toInt ≤ 9)) ∨ ((r1 = 0) ∧ (x.toInt < 0 ∨ 9 < x.toInt)))) := h2
  rcases h2 with (⟨rfl, h2_a0, h2_a1⟩ | ⟨rfl, h2_a0⟩)
  · refine lv_if_eq (tgt := 19) hx hb dX9_figures_4 (by decide) (fun c9 => absurd c9 (by decide)) (fun _ => ?_)
    refine lv_iload_n hx hb dX9_figures_7 rfl (lv_at hl 2 rfl) ?_
    refine rdS (As := [.int y]) (rest := []) ⟨hx, hb, hml, hown, hts⟩ (k_X9_isFigure l dC dI cI cZ cQ y) (va_cwS 1 hts gX9_figures_X9_isFigure rfl rfl rfl (by decide +kernel) ⟨Nat.le_of_ble_eq_true rfl, Nat.le_of_ble_eq_true rfl⟩) hP hK hN [] rfl rfl hl.1 rfl (Nat.le_of_ble_eq_true rfl) dX9_figures_8 ⟨Nat.le_of_ble_eq_true rfl, Nat.le_of_ble_eq_true rfl⟩ (fun r3 h4 => ?_)
    have h4 : ((((r3 = 1) ∧ (0 ≤ y.toInt) ∧ (y.toInt ≤ 9)) ∨ ((r3 = 0) ∧ (y.toInt < 0 ∨ 9 < y.toInt)))) := h4
    rcases h4 with (⟨rfl, h4_a0, h4_a1⟩ | ⟨rfl, h4_a0⟩)
    · refine lv_if_eq (tgt := 19) hx hb dX9_figures_11 (by decide) (fun c9 => absurd c9 (by decide)) (fun _ => ?_)
      refine lv_iload_n hx hb dX9_figures_14 rfl (lv_at hl 1 rfl) ?_
      refine lv_iload_n hx hb dX9_figures_15 rfl (lv_at hl 2 rfl) ?_
      refine lv_icmp_ne (tgt := 22) hx hb dX9_figures_16 (by decide) (fun c5 => ?_) (fun c5 => ?_)
      · have dc5 : x.toInt ≠ y.toInt := neC rfl rfl c5
        refine lv_iload_n hx hb dX9_figures_22 rfl (lv_at hl 3 rfl) ?_
        refine lv_iconst (v := 0) hx hb dX9_figures_23 (by decide) ?_
        refine lv_bipush (v := 9) hx hb dX9_figures_24 (by decide) ?_
        refine rdS (As := [.int v, .int 0, .int 9]) (rest := []) ⟨hx, hb, hml, hown, hts⟩ (k_X9_within l dC dI cI cZ cQ v (0 : Int32) (9 : Int32)) (va_cwS 3 hts gX9_figures_X9_within rfl rfl rfl (by decide +kernel) ⟨Nat.le_of_ble_eq_true rfl, Nat.le_of_ble_eq_true rfl⟩) hP hK hN [] rfl rfl hl.1 rfl (Nat.le_of_ble_eq_true rfl) dX9_figures_26 ⟨Nat.le_of_ble_eq_true rfl, Nat.le_of_ble_eq_true rfl⟩ (fun r6 h7 => ?_)
        have h7 : ((((r6 = 1) ∧ ((0) ≤ v.toInt) ∧ (v.toInt ≤ (9))) ∨ ((r6 = 0) ∧ (v.toInt < (0) ∨ (9) < v.toInt)))) := h7
        rcases h7 with (⟨rfl, h7_a0, h7_a1⟩ | ⟨rfl, h7_a0⟩)
        · refine lv_if_ne (tgt := 35) hx hb dX9_figures_29 (by decide) (fun _ => ?_) (fun c9 => absurd c9 (by decide))
          refine lv_aload_n hx hb dX9_figures_35 rfl (lv_at hl 0 rfl) ?_
          refine va_get (D := (dC, dI)) (ci := 9) (v := .ref (a 28)) (C := RX9) (T := TX9) (N := 11) hx hb hts inX9 hown hK hP 0 rfl rfl 6 (by decide) lf58 (fun _ h9 => h9) rfl dX9_figures_36 ?_
          refine lv_iload_n hx hb dX9_figures_39 rfl (lv_at hl 1 rfl) ?_
          refine lv_iload_n hx hb dX9_figures_40 rfl (lv_at hl 2 rfl) ?_
          refine lv_iload_n hx hb dX9_figures_41 rfl (lv_at hl 3 rfl) ?_
          refine wrV (As := [.int x, .int y, .int v]) (rest := []) (wr := [((a 43), .inr (9, [.ref (a 0), .ref (a 2), .ref (a 4), .ref (a 14), .ref (a 16), .ref (a 23), .ref (a 28), .ref (a 33), .ref (a 42), .ref rb0, .ref db0]))]) (w2 := (fun u : US => (wsCd cI cZ cQ a rb0 rb1 rb2 db0 db1 db2 (u.1 0) thi ctr cbe har mar tol))) ⟨hx, hb, hml, hown, hts⟩ (k_X0_exchangeAlike l dC dI cI cZ cQ a ali thi ctr cbe har mar tol _ x y v r_thi r_ctr r_mar r_tol (by omega) (by omega) (by omega) (by omega)) (cwV 3 hts gX9_figures_X0_exchangeAlike rfl rfl rfl (by decide +kernel) ⟨Nat.le_of_ble_eq_true rfl, Nat.le_of_ble_eq_true rfl⟩) hP hD hS hA hK hN [1, 2, 3, 4, 5, 6, 7, 8] [0] [0, 1, 2, 3, 4, 5, 6, 7, 8] rfl rfl (by decide) (by decide) (by decide) (fun _ => rfl) (by decide) 1 0 rfl rfl rfl hl.1 rfl (Nat.le_of_ble_eq_true rfl) dX9_figures_42 ⟨Nat.le_of_ble_eq_true rfl, Nat.le_of_ble_eq_true rfl⟩ (fun r8 u10 H locs h9 hP hD hS => ?_)
          obtain ⟨ali_c11, eali_c11⟩ : ∃ f : Nat → Int32, f = (u10.1 0) := ⟨_, rfl⟩
          have hP : va_P (dC, dI) vwCl (wsCd cI cZ cQ a rb0 rb1 rb2 db0 db1 db2 ali_c11 thi ctr cbe har mar tol) H := by rw [eali_c11]; exact hP
          have hD : va_D A (wsCd cI cZ cQ a rb0 rb1 rb2 db0 db1 db2 ali_c11 thi ctr cbe har mar tol) := by rw [eali_c11]; exact hD
          have h9 : (r8 = ali (x.toInt * 10 + y.toInt).toNat) ∧ (ali_c11 = upd (upd ali (x.toInt * 10 + y.toInt).toNat v) (y.toInt * 10 + x.toInt).toNat v) := by (try rw [eali_c11]); exact h9
          obtain ⟨h9_0, h9_1⟩ := h9
          exact W.iret (v := r8) hx hb hr (fun tq ht hW => ⟨⟨r8, (uS [ali_c11] 0 (fun _ => 0)), rfl, (show spFig ali x y v r8 ali_c11 from by (unfold spFig; first | exact Or.inl ⟨by omega, rfl, rfl⟩ | exact Or.inr (Or.inl ⟨by omega, by omega, by omega, by omega, rfl, rfl⟩) | exact Or.inr (Or.inr ⟨by omega, by omega, by omega, by omega, by assumption, by assumption⟩))), by rw [ht]; exact hP, hD⟩, hS.F ht⟩) hS.2.2 dX9_figures_45
        · refine lv_if_ne (tgt := 35) hx hb dX9_figures_29 (by decide) (fun c9 => absurd (by decide) c9) (fun _ => ?_)
          refine lv_bipush (v := (-3)) hx hb dX9_figures_32 (by decide) ?_
          exact W.iret (v := (-3)) hx hb hr (fun tq ht hW => ⟨⟨(-3), (uS [ali] 0 (fun _ => 0)), rfl, (show spFig ali x y v ((-3) : Int32) ali from by (try rw [show ((-3) : Int32).toInt = (-3) from (show ((-3) : Int32).toInt = (-3) from rfl)]); (unfold spFig; first | exact Or.inl ⟨by omega, rfl, rfl⟩ | exact Or.inr (Or.inl ⟨by omega, by omega, by omega, by omega, rfl, rfl⟩) | exact Or.inr (Or.inr ⟨by omega, by omega, by omega, by omega, by assumption, by assumption⟩))), by rw [ht]; exact hP, hD⟩, hS.F ht⟩) hS.2.2 dX9_figures_34
      · have dc5 : x.toInt = y.toInt := eqC rfl rfl c5
        refine lv_bipush (v := (-2)) hx hb dX9_figures_19 (by decide) ?_
        exact W.iret (v := (-2)) hx hb hr (fun tq ht hW => ⟨⟨(-2), (uS [ali] 0 (fun _ => 0)), rfl, (show spFig ali x y v ((-2) : Int32) ali from by (try rw [show ((-2) : Int32).toInt = (-2) from (show ((-2) : Int32).toInt = (-2) from rfl)]); (unfold spFig; first | exact Or.inl ⟨by omega, rfl, rfl⟩ | exact Or.inr (Or.inl ⟨by omega, by omega, by omega, by omega, rfl, rfl⟩) | exact Or.inr (Or.inr ⟨by omega, by omega, by omega, by omega, by assumption, by assumption⟩))), by rw [ht]; exact hP, hD⟩, hS.F ht⟩) hS.2.2 dX9_figures_21
    · refine lv_if_eq (tgt := 19) hx hb dX9_figures_11 (by decide) (fun _ => ?_) (fun c9 => absurd (by decide) c9)
      refine lv_bipush (v := (-2)) hx hb dX9_figures_19 (by decide) ?_
      exact W.iret (v := (-2)) hx hb hr (fun tq ht hW => ⟨⟨(-2), (uS [ali] 0 (fun _ => 0)), rfl, (show spFig ali x y v ((-2) : Int32) ali from by (try rw [show ((-2) : Int32).toInt = (-2) from (show ((-2) : Int32).toInt = (-2) from rfl)]); (unfold spFig; first | exact Or.inl ⟨by omega, rfl, rfl⟩ | exact Or.inr (Or.inl ⟨by omega, by omega, by omega, by omega, rfl, rfl⟩) | exact Or.inr (Or.inr ⟨by omega, by omega, by omega, by omega, by assumption, by assumption⟩))), by rw [ht]; exact hP, hD⟩, hS.F ht⟩) hS.2.2 dX9_figures_21
  · refine lv_if_eq (tgt := 19) hx hb dX9_figures_4 (by decide) (fun _ => ?_) (fun c9 => absurd (by decide) c9)
    refine lv_bipush (v := (-2)) hx hb dX9_figures_19 (by decide) ?_
    exact W.iret (v := (-2)) hx hb hr (fun tq ht hW => ⟨⟨(-2), (uS [ali] 0 (fun _ => 0)), rfl, (show spFig ali x y v ((-2) : Int32) ali from by (try rw [show ((-2) : Int32).toInt = (-2) from (show ((-2) : Int32).toInt = (-2) from rfl)]); (unfold spFig; first | exact Or.inl ⟨by omega, rfl, rfl⟩ | exact Or.inr (Or.inl ⟨by omega, by omega, by omega, by omega, rfl, rfl⟩) | exact Or.inr (Or.inr ⟨by omega, by omega, by omega, by omega, by assumption, by assumption⟩))), by rw [ht]; exact hP, hD⟩, hS.F ht⟩) hS.2.2 dX9_figures_21
set_option maxHeartbeats 4000000 in
set_option maxRecDepth 100000 in
theorem k_X9_code (l : Launch) (dC : Nat → ClassId) (dI : Nat → Nat → Nat) (cI cZ cQ : ClassId) (a : Nat → Nat) (rb0 : Nat) (rb1 : Nat) (rb2 : Nat) (db0 : Nat) (db1 : Nat) (db2 : Nat) (ali : Nat → Int32) (thi : Nat → Int32) (ctr : Nat → Int32) (cbe : Nat → Int32) (har : Int32) (mar : Nat → Int32) (tol : Nat → Int32) (sz : Nat) (row : Int64) (n : Int32) (i : Int32) (r_thi : rg 8 (0) (23) thi) (r_ctr : rg 6 (0) (23) ctr) (r_mar : rg 24 (0) (255) mar) (r_tol : rg 8 (0) (23) tol) : KW l yX9_code wsX9_code { frames := 11, cells := 0, slots := 0, locals := 262 } (dC, dI) (TY cI cZ cQ) (wsCd cI cZ cQ a rb0 rb1 rb2 db0 db1 db2 ali thi ctr cbe har mar tol) [.ref (a 43), .long row, .int n, .int i] sz 0 0 (fun (r : Int32) (u : US) => (rg 8 (0) (23) (u.1 0)) ∧ (rg 8 (0) (23) (u.1 1)) ∧ (rg 6 (0) (23) (u.1 2))) (fun u : US => (wsCd cI cZ cQ a rb0 rb1 rb2 db0 db1 db2 ali (u.1 1) (u.1 2) (u.1 3) (u.1 4 0) mar (u.1 0))) := by
  refine Met.ofW (cc := cX9_code) (maxL := 6) (ret := (some .int)) (by decide) rfl ?_
  intro p e s m args below meth c s₁ B hml hv
  obtain ⟨rfl, hsz, hP, hK, hD0, hN⟩ := hv
  have hx := B.exec
  have hb := B.bytes
  have hr := B.returns
  have hts := atoms_spec (ws := wsX9_code) B.pre
  have hown : s.vm.findClass RX9 = some m.cls := findClass_of_methodNamed B.named
  have hlocks := B.notSynchronized
  have lf58 := hts (.fieldLink RX9 58 "PalaceOfRooms" "codes" "LPalaceOfRooms$Codes;") (List.mem_cons_of_mem _ (List.mem_append_left _ (List.mem_append_left _ (List.mem_append_left _ (List.mem_append_left _ (List.mem_of_getElem? (i := 0) rfl))))))
  have inX9 : ∀ w ∈ wsX90, w ∈ wsX9_code := fun w h => List.mem_cons_of_mem _ (List.mem_append_left _ (List.mem_append_left _ (List.mem_append_right _ h)))
  have lf69 := hts (.fieldLink RX9 69 "PalaceOfRooms" "told" "[I") (List.mem_cons_of_mem _ (List.mem_append_left _ (List.mem_append_left _ (List.mem_append_left _ (List.mem_append_left _ (List.mem_of_getElem? (i := 1) rfl))))))
  have lf269 := hN.use (w := .fieldLinkNest "PalaceOfRooms" 269 "PalaceOfRooms$Codes" "best" "[I" "PalaceOfRooms") (List.mem_of_getElem? (i := 18) rfl) ([.ref (a 43), .long row, .int n, .int i] : List Value).toArray
  have inX0 : ∀ w ∈ wsX00, w ∈ wsX9_code := fun w h => List.mem_cons_of_mem _ (List.mem_append_left _ (List.mem_append_right _ h))
  have lf266 := hN.use (w := .fieldLinkNest "PalaceOfRooms" 266 "PalaceOfRooms$Codes" "bestHarm" "I" "PalaceOfRooms") (List.mem_of_getElem? (i := 19) rfl) ([.ref (a 43), .long row, .int n, .int i] : List Value).toArray
  subst hsz
  have hD := hD0.self (sz := s.heap.size)
  generalize hAe : va_A (wsCd cI cZ cQ a rb0 rb1 rb2 db0 db1 db2 ali thi ctr cbe har mar tol) s.heap.size = A at hD ⊢
  have hA : ∀ q : Nat, s.heap.size ≤ q → A q := fun q h => by rw [← hAe]; exact Or.inr h
  have hS : va_S A s.heap s.heap [] := va_S.rf
  have hl := lv_entry ([.ref (a 43), .long row, .int n, .int i]) (n := 6) (Nat.le_of_ble_eq_true rfl)
  rw [lg_entry_eq]
  generalize (lg_sl ([.ref (a 43), .long row, .int n, .int i]) ++ List.replicate (6 - (lg_sl ([.ref (a 43), .long row, .int n, .int i])).length) Slot.unset).toArray = ls at hl ⊢
  have hl : lv_has ls 6 [(0, .ref (a 43)), (1, .long row), (3, .int n), (4, .int i)] := hl
  refine lv_aload_n hx hb dX9_code_0 rfl (lv_at hl 0 rfl) ?_
  refine lv_lload_n hx hb dX9_code_1 rfl (lv_at hl 1 rfl) ?_
  refine lv_iload_n hx hb dX9_code_2 rfl (lv_at hl 2 rfl) ?_
  refine lv_iload hx hb dX9_code_3 (lv_at hl 3 rfl) ?_
  refine lv_iconst (v := 2) hx hb dX9_code_5 (by decide) ?_
  refine lv_bipush (v := 6) hx hb dX9_code_6 (by decide) ?_
  have kc2 : (2 : Int32).toInt = 2 := rfl
  have kc6 : (6 : Int32).toInt = 6 := rfl
  refine wrV (As := [.long row, .int n, .int i, .int 2, .int 6]) (rest := []) (wr := [((a 28), .inr (0, [.ref (a 2), .ref (a 29), .ref (a 30), .ref (a 31), .ref (a 32), .int har])), ((a 29), .inl (cI, 100, .inl ali)), ((a 30), .inl (cI, 8, .inl thi)), ((a 31), .inl (cI, 6, .inl ctr)), ((a 32), .inl (cI, 6, .inl cbe)), ((a 2), .inr (2, [.ref (a 3)])), ((a 3), .inl (cI, 24, .inl mar))]) (w2 := (fun u : US => (wsCd cI cZ cQ a rb0 rb1 rb2 db0 db1 db2 ali thi ctr cbe har mar (u.1 0)))) ⟨hx, hb, hml, hown, hts⟩ (k_X9_rowRefusal l dC dI cI cZ cQ a rb0 rb1 rb2 db0 db1 db2 tol _ row n i (2 : Int32) (6 : Int32) r_tol (by omega) (by omega)) (cwV 5 hts gX9_code_X9_rowRefusal rfl rfl rfl (by decide +kernel) ⟨Nat.le_of_ble_eq_true rfl, Nat.le_of_ble_eq_true rfl⟩) hP hD hS hA hK hN [0, 8] [1, 2, 3, 4, 5, 6, 7] [7, 0, 1, 2, 3, 4, 5, 6, 8] rfl rfl (by decide) (by decide) (by decide) (fun _ => rfl) (by decide) 0 9 rfl rfl rfl hl.1 rfl (Nat.le_of_ble_eq_true rfl) dX9_code_8 ⟨Nat.le_of_ble_eq_true rfl, Nat.le_of_ble_eq_true rfl⟩ (fun r1 u3 H locs h2 hP hD hS => ?_)
  obtain ⟨tol_c4, etol_c4⟩ : ∃ f : Nat → Int32, f = (u3.1 0) := ⟨_, rfl⟩
  have hP : va_P (dC, dI) vwCl (wsCd cI cZ cQ a rb0 rb1 rb2 db0 db1 db2 ali thi ctr cbe har mar tol_c4) H := by rw [etol_c4]; exact hP
  have hD : va_D A (wsCd cI cZ cQ a rb0 rb1 rb2 db0 db1 db2 ali thi ctr cbe har mar tol_c4) := by rw [etol_c4]; exact hD
  have h2 : ((((r1 = 0) ∧ ((2) ≤ n.toInt) ∧ (n.toInt ≤ (6)) ∧ (-1 ≤ i.toInt)) ∨ ((r1 = (-2))) ∨ ((r1 = (-3))))) ∧ (rg 8 (0) (23) tol_c4) := by (try rw [etol_c4]); exact h2
  rcases h2 with ⟨(⟨rfl, h2_a0, h2_a1, h2_a2⟩ | rfl | rfl), h2_0⟩
  · refine lv_istore (lv' := [(5, .int 0), (0, .ref (a 43)), (1, .long row), (3, .int n), (4, .int i)]) hx hb dX9_code_11 hl (by decide) rfl (fun ls hl => ?_)
    refine lv_iload hx hb dX9_code_13 (lv_at hl 0 rfl) ?_
    refine lv_if_eq (tgt := 21) hx hb dX9_code_15 (by decide) (fun _ => ?_) (fun c9 => absurd (by decide) c9)
    refine lv_iload hx hb dX9_code_21 (lv_at hl 4 rfl) ?_
    refine lv_iload_n hx hb dX9_code_23 rfl (lv_at hl 3 rfl) ?_
    refine lv_icmp_lt (tgt := 29) hx hb dX9_code_24 (by decide) (fun c5 => ?_) (fun c5 => ?_)
    · have dc5 : i.toInt < n.toInt := ltC rfl rfl c5
      refine lv_aload_n hx hb dX9_code_29 rfl (lv_at hl 1 rfl) ?_
      refine va_get (D := (dC, dI)) (ci := 9) (v := .ref (a 28)) (C := RX9) (T := TX9) (N := 11) hx hb hts inX9 hown hK hP 0 rfl rfl 6 (by decide) lf58 (fun _ h9 => h9) rfl dX9_code_30 ?_
      refine lv_aload_n hx hb dX9_code_33 rfl (lv_at hl 1 rfl) ?_
      refine va_get (D := (dC, dI)) (ci := 9) (v := .ref (a 42)) (C := RX9) (T := TX9) (N := 11) hx hb hts inX9 hown hK hP 0 rfl rfl 8 (by decide) lf69 (fun _ h9 => h9) rfl dX9_code_34 ?_
      refine lv_iload_n hx hb dX9_code_37 rfl (lv_at hl 3 rfl) ?_
      refine wvV (As := [.ref (a 42), .int n]) (rest := []) (wr := [((a 43), .inr (9, [.ref (a 0), .ref (a 2), .ref (a 4), .ref (a 14), .ref (a 16), .ref (a 23), .ref (a 28), .ref (a 33), .ref (a 42), .ref rb0, .ref db0]))]) (w2 := (fun u : US => (wsCd cI cZ cQ a rb0 rb1 rb2 db0 db1 db2 ali (u.1 0) (u.1 1) (u.1 2) (u.1 3 0) mar tol_c4))) ⟨hx, hb, hml, hown, hts⟩ (k_X0_findBest l dC dI cI cZ cQ a ali thi ctr cbe har mar tol_c4 _ n r_thi r_ctr r_mar h2_0 (by omega) (by omega)) (cwV 2 hts gX9_code_X0_findBest rfl rfl rfl (by decide +kernel) ⟨Nat.le_of_ble_eq_true rfl, Nat.le_of_ble_eq_true rfl⟩) hP hD hS hA hK hN [1, 2, 3, 4, 5, 6, 7, 8] [0] [0, 1, 2, 3, 4, 5, 6, 7, 8] rfl rfl (by decide) (by decide) (by decide) (fun _ => rfl) (by decide) 1 0 rfl rfl rfl hl.1 rfl (Nat.le_of_ble_eq_true rfl) dX9_code_38 ⟨Nat.le_of_ble_eq_true rfl, Nat.le_of_ble_eq_true rfl⟩ (fun u8 H locs h7 hP hD hS => ?_)
      obtain ⟨thi_c9, ethi_c9⟩ : ∃ f : Nat → Int32, f = (u8.1 0) := ⟨_, rfl⟩
      obtain ⟨ctr_c10, ectr_c10⟩ : ∃ f : Nat → Int32, f = (u8.1 1) := ⟨_, rfl⟩
      obtain ⟨cbe_c11, ecbe_c11⟩ : ∃ f : Nat → Int32, f = (u8.1 2) := ⟨_, rfl⟩
      obtain ⟨har_c12, ehar_c12⟩ : ∃ f : Int32, f = (u8.1 3 0) := ⟨_, rfl⟩
      have hP : va_P (dC, dI) vwCl (wsCd cI cZ cQ a rb0 rb1 rb2 db0 db1 db2 ali thi_c9 ctr_c10 cbe_c11 har_c12 mar tol_c4) H := by rw [ethi_c9, ectr_c10, ecbe_c11, ehar_c12]; exact hP
      have hD : va_D A (wsCd cI cZ cQ a rb0 rb1 rb2 db0 db1 db2 ali thi_c9 ctr_c10 cbe_c11 har_c12 mar tol_c4) := by rw [ethi_c9, ectr_c10, ecbe_c11, ehar_c12]; exact hD
      have h7 : (rg 8 (0) (23) thi_c9) ∧ (rg 6 (0) (23) ctr_c10) := by (try rw [ethi_c9]); (try rw [ectr_c10]); (try rw [ecbe_c11]); (try rw [ehar_c12]); exact h7
      obtain ⟨h7_0, h7_1⟩ := h7
      refine lv_iload hx hb dX9_code_41 (lv_at hl 4 rfl) ?_
      refine lv_if_ge (tgt := 56) hx hb dX9_code_43 (by decide) (fun c13 => ?_) (fun c13 => ?_)
      · have dc13 : 0 ≤ i.toInt := leC (show (0 : Int32).toInt = 0 from rfl) rfl c13
        refine lv_aload_n hx hb dX9_code_56 rfl (lv_at hl 1 rfl) ?_
        refine va_get (D := (dC, dI)) (ci := 9) (v := .ref (a 28)) (C := RX9) (T := TX9) (N := 11) hx hb hts inX9 hown hK hP 0 rfl rfl 6 (by decide) lf58 (fun _ h9 => h9) rfl dX9_code_57 ?_
        refine va_getN (D := (dC, dI)) (ci := 0) (v := .ref (a 32)) (C := RX0) (T := TX0) (N := 6) hx hb hts inX0 hown hK hP 1 rfl rfl 4 (by decide) lf269 (fun _ h9 => h9) rfl dX9_code_60 ?_
        refine lv_iload hx hb dX9_code_63 (lv_at hl 4 rfl) ?_
        have b14 : vp_in i 6 := inC rfl (by omega) (by omega)
        refine va_iald hx hb hK hP 5 0 rfl rfl b14 dX9_code_65 ?_
        exact W.iret (v := cbe_c11 i.toNatClampNeg) hx hb hr (fun tq ht hW => ⟨⟨cbe_c11 i.toNatClampNeg, (uS [tol_c4, thi_c9, ctr_c10, cbe_c11, (fun _ => har_c12)] 0 (fun _ => 0)), rfl, ⟨h2_0, h7_0, h7_1⟩, by rw [ht]; exact hP, hD⟩, hS.F ht⟩) hS.2.2 dX9_code_66
      · have dc13 : i.toInt < 0 := nleC (show (0 : Int32).toInt = 0 from rfl) rfl c13
        refine lv_aload_n hx hb dX9_code_46 rfl (lv_at hl 1 rfl) ?_
        refine va_get (D := (dC, dI)) (ci := 9) (v := .ref (a 28)) (C := RX9) (T := TX9) (N := 11) hx hb hts inX9 hown hK hP 0 rfl rfl 6 (by decide) lf58 (fun _ h9 => h9) rfl dX9_code_47 ?_
        refine va_getN (D := (dC, dI)) (ci := 0) (v := .int har_c12) (C := RX0) (T := TX0) (N := 6) hx hb hts inX0 hown hK hP 1 rfl rfl 5 (by decide) lf266 (fun _ h9 => h9) rfl dX9_code_50 ?_
        refine lv_goto (tgt := 66) hx hb dX9_code_53 (by decide) ?_
        exact W.iret (v := har_c12) hx hb hr (fun tq ht hW => ⟨⟨har_c12, (uS [tol_c4, thi_c9, ctr_c10, cbe_c11, (fun _ => har_c12)] 0 (fun _ => 0)), rfl, ⟨h2_0, h7_0, h7_1⟩, by rw [ht]; exact hP, hD⟩, hS.F ht⟩) hS.2.2 dX9_code_66
    · have dc5 : n.toInt ≤ i.toInt := nltC rfl rfl c5
      refine lv_iconst (v := (-1)) hx hb dX9_code_27 (by decide) ?_
      exact W.iret (v := (-1)) hx hb hr (fun tq ht hW => ⟨⟨(-1), (uS [tol_c4, thi, ctr, cbe, (fun _ => har)] 0 (fun _ => 0)), rfl, ⟨h2_0, r_thi, r_ctr⟩, by rw [ht]; exact hP, hD⟩, hS.F ht⟩) hS.2.2 dX9_code_28
  · refine lv_istore (lv' := [(5, .int (-2)), (0, .ref (a 43)), (1, .long row), (3, .int n), (4, .int i)]) hx hb dX9_code_11 hl (by decide) rfl (fun ls hl => ?_)
    refine lv_iload hx hb dX9_code_13 (lv_at hl 0 rfl) ?_
    refine lv_if_eq (tgt := 21) hx hb dX9_code_15 (by decide) (fun c9 => absurd c9 (by decide)) (fun _ => ?_)
    refine lv_iload hx hb dX9_code_18 (lv_at hl 0 rfl) ?_
    exact W.iret (v := (-2)) hx hb hr (fun tq ht hW => ⟨⟨(-2), (uS [tol_c4, thi, ctr, cbe, (fun _ => har)] 0 (fun _ => 0)), rfl, ⟨h2_0, r_thi, r_ctr⟩, by rw [ht]; exact hP, hD⟩, hS.F ht⟩) hS.2.2 dX9_code_20
  · refine lv_istore (lv' := [(5, .int (-3)), (0, .ref (a 43)), (1, .long row), (3, .int n), (4, .int i)]) hx hb dX9_code_11 hl (by decide) rfl (fun ls hl => ?_)
    refine lv_iload hx hb dX9_code_13 (lv_at hl 0 rfl) ?_
    refine lv_if_eq (tgt := 21) hx hb dX9_code_15 (by decide) (fun c9 => absurd c9 (by decide)) (fun _ => ?_)
    refine lv_iload hx hb dX9_code_18 (lv_at hl 0 rfl) ?_
    exact W.iret (v := (-3)) hx hb hr (fun tq ht hW => ⟨⟨(-3), (uS [tol_c4, thi, ctr, cbe, (fun _ => har)] 0 (fun _ => 0)), rfl, ⟨h2_0, r_thi, r_ctr⟩, by rw [ht]; exact hP, hD⟩, hS.F ht⟩) hS.2.2 dX9_code_20
end
