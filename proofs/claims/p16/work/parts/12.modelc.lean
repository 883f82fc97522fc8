set_option maxRecDepth 20000 in
theorem ggX10_nextToken_X10_in : GoodIn wsX10_nextToken wsX10_in := goodIn_r _ [17] rfl (by decide +kernel)
set_option maxRecDepth 20000 in
theorem gX10_nextToken_X10_in : GoodIn wsX10_nextToken (va_wsS RX10 93 yX10_in wsX10_in) := goodIn_app (goodIn_of _ (by decide +kernel)) ggX10_nextToken_X10_in
set_option maxRecDepth 20000 in
theorem dqX10_nextToken_p120 : dz_rn 0 (cX10_nextToken.data.toList.drop 0) [(0, 4), (3, 0), (0, 4), (3, 0), (4, 4), (0, 4), (3, 0), (0, 4), (3, 0), (0, 10), (2, 0), (4, 2), (0, 4), (0, 28)] = some [(0, .aload_n 0, 1), (1, .getfield 146, 3), (4, .aload_n 0, 1), (5, .getfield 141, 3), (8, .if_icmp .ge 30, 3), (11, .aload_n 0, 1), (12, .getfield 62, 3), (15, .aload_n 0, 1), (16, .getfield 146, 3), (19, .iaload, 1), (20, .bipush 32, 2), (22, .if_icmp .ne 16, 3), (25, .aload_n 0, 1), (26, .dup, 1)] := by decide +kernel
theorem dX10_nextToken_0 : decode cX10_nextToken 0 = .ok (.aload_n 0, 1) := dz_at dqX10_nextToken_p120 0 rfl
theorem dX10_nextToken_1 : decode cX10_nextToken 1 = .ok (.getfield 146, 3) := dz_at dqX10_nextToken_p120 1 rfl
theorem dX10_nextToken_4 : decode cX10_nextToken 4 = .ok (.aload_n 0, 1) := dz_at dqX10_nextToken_p120 2 rfl
theorem dX10_nextToken_5 : decode cX10_nextToken 5 = .ok (.getfield 141, 3) := dz_at dqX10_nextToken_p120 3 rfl
theorem dX10_nextToken_8 : decode cX10_nextToken 8 = .ok (.if_icmp .ge 30, 3) := dz_at dqX10_nextToken_p120 4 rfl
theorem dX10_nextToken_11 : decode cX10_nextToken 11 = .ok (.aload_n 0, 1) := dz_at dqX10_nextToken_p120 5 rfl
theorem dX10_nextToken_12 : decode cX10_nextToken 12 = .ok (.getfield 62, 3) := dz_at dqX10_nextToken_p120 6 rfl
theorem dX10_nextToken_15 : decode cX10_nextToken 15 = .ok (.aload_n 0, 1) := dz_at dqX10_nextToken_p120 7 rfl
theorem dX10_nextToken_16 : decode cX10_nextToken 16 = .ok (.getfield 146, 3) := dz_at dqX10_nextToken_p120 8 rfl
theorem dX10_nextToken_19 : decode cX10_nextToken 19 = .ok (.iaload, 1) := dz_at dqX10_nextToken_p120 9 rfl
theorem dX10_nextToken_20 : decode cX10_nextToken 20 = .ok (.bipush 32, 2) := dz_at dqX10_nextToken_p120 10 rfl
theorem dX10_nextToken_22 : decode cX10_nextToken 22 = .ok (.if_icmp .ne 16, 3) := dz_at dqX10_nextToken_p120 11 rfl
theorem dX10_nextToken_25 : decode cX10_nextToken 25 = .ok (.aload_n 0, 1) := dz_at dqX10_nextToken_p120 12 rfl
theorem dX10_nextToken_26 : decode cX10_nextToken 26 = .ok (.dup, 1) := dz_at dqX10_nextToken_p120 13 rfl
set_option maxRecDepth 20000 in
theorem dqX10_nextToken_p121 : dz_rn 27 (cX10_nextToken.data.toList.drop 27) [(3, 0), (0, 9), (0, 11), (3, 3), (4, 0), (0, 4), (0, 4), (3, 0), (3, 3), (0, 4), (0, 8), (3, 3), (0, 4), (0, 8)] = some [(27, .getfield 146, 3), (30, .iconst 1, 1), (31, .iadd, 1), (32, .putfield 146, 3), (35, .goto (-35), 3), (38, .aload_n 0, 1), (39, .aload_n 0, 1), (40, .getfield 146, 3), (43, .putfield 149, 3), (46, .aload_n 0, 1), (47, .iconst 0, 1), (48, .putfield 152, 3), (51, .aload_n 0, 1), (52, .iconst 0, 1)] := by decide +kernel
theorem dX10_nextToken_27 : decode cX10_nextToken 27 = .ok (.getfield 146, 3) := dz_at dqX10_nextToken_p121 0 rfl
theorem dX10_nextToken_30 : decode cX10_nextToken 30 = .ok (.iconst 1, 1) := dz_at dqX10_nextToken_p121 1 rfl
theorem dX10_nextToken_31 : decode cX10_nextToken 31 = .ok (.iadd, 1) := dz_at dqX10_nextToken_p121 2 rfl
theorem dX10_nextToken_32 : decode cX10_nextToken 32 = .ok (.putfield 146, 3) := dz_at dqX10_nextToken_p121 3 rfl
theorem dX10_nextToken_35 : decode cX10_nextToken 35 = .ok (.goto (-35), 3) := dz_at dqX10_nextToken_p121 4 rfl
theorem dX10_nextToken_38 : decode cX10_nextToken 38 = .ok (.aload_n 0, 1) := dz_at dqX10_nextToken_p121 5 rfl
theorem dX10_nextToken_39 : decode cX10_nextToken 39 = .ok (.aload_n 0, 1) := dz_at dqX10_nextToken_p121 6 rfl
theorem dX10_nextToken_40 : decode cX10_nextToken 40 = .ok (.getfield 146, 3) := dz_at dqX10_nextToken_p121 7 rfl
theorem dX10_nextToken_43 : decode cX10_nextToken 43 = .ok (.putfield 149, 3) := dz_at dqX10_nextToken_p121 8 rfl
theorem dX10_nextToken_46 : decode cX10_nextToken 46 = .ok (.aload_n 0, 1) := dz_at dqX10_nextToken_p121 9 rfl
theorem dX10_nextToken_47 : decode cX10_nextToken 47 = .ok (.iconst 0, 1) := dz_at dqX10_nextToken_p121 10 rfl
theorem dX10_nextToken_48 : decode cX10_nextToken 48 = .ok (.putfield 152, 3) := dz_at dqX10_nextToken_p121 11 rfl
theorem dX10_nextToken_51 : decode cX10_nextToken 51 = .ok (.aload_n 0, 1) := dz_at dqX10_nextToken_p121 12 rfl
theorem dX10_nextToken_52 : decode cX10_nextToken 52 = .ok (.iconst 0, 1) := dz_at dqX10_nextToken_p121 13 rfl
set_option maxRecDepth 20000 in
theorem dqX10_nextToken_p122 : dz_rn 53 (cX10_nextToken.data.toList.drop 53) [(3, 3), (0, 4), (3, 0), (0, 4), (3, 0), (4, 2), (0, 4), (3, 4), (3, 3), (4, 0), (0, 4), (3, 0), (0, 4), (3, 0)] = some [(53, .putfield 155, 3), (56, .aload_n 0, 1), (57, .getfield 146, 3), (60, .aload_n 0, 1), (61, .getfield 141, 3), (64, .if_icmp .ne 13, 3), (67, .aload_n 0, 1), (68, .ldc2_w 158, 3), (71, .putfield 160, 3), (74, .goto 320, 3), (77, .aload_n 0, 1), (78, .getfield 62, 3), (81, .aload_n 0, 1), (82, .getfield 146, 3)] := by decide +kernel
theorem dX10_nextToken_53 : decode cX10_nextToken 53 = .ok (.putfield 155, 3) := dz_at dqX10_nextToken_p122 0 rfl
theorem dX10_nextToken_56 : decode cX10_nextToken 56 = .ok (.aload_n 0, 1) := dz_at dqX10_nextToken_p122 1 rfl
theorem dX10_nextToken_57 : decode cX10_nextToken 57 = .ok (.getfield 146, 3) := dz_at dqX10_nextToken_p122 2 rfl
theorem dX10_nextToken_60 : decode cX10_nextToken 60 = .ok (.aload_n 0, 1) := dz_at dqX10_nextToken_p122 3 rfl
theorem dX10_nextToken_61 : decode cX10_nextToken 61 = .ok (.getfield 141, 3) := dz_at dqX10_nextToken_p122 4 rfl
theorem dX10_nextToken_64 : decode cX10_nextToken 64 = .ok (.if_icmp .ne 13, 3) := dz_at dqX10_nextToken_p122 5 rfl
theorem dX10_nextToken_67 : decode cX10_nextToken 67 = .ok (.aload_n 0, 1) := dz_at dqX10_nextToken_p122 6 rfl
theorem dX10_nextToken_68 : decode cX10_nextToken 68 = .ok (.ldc2_w 158, 3) := dz_at dqX10_nextToken_p122 7 rfl
theorem dX10_nextToken_71 : decode cX10_nextToken 71 = .ok (.putfield 160, 3) := dz_at dqX10_nextToken_p122 8 rfl
theorem dX10_nextToken_74 : decode cX10_nextToken 74 = .ok (.goto 320, 3) := dz_at dqX10_nextToken_p122 9 rfl
theorem dX10_nextToken_77 : decode cX10_nextToken 77 = .ok (.aload_n 0, 1) := dz_at dqX10_nextToken_p122 10 rfl
theorem dX10_nextToken_78 : decode cX10_nextToken 78 = .ok (.getfield 62, 3) := dz_at dqX10_nextToken_p122 11 rfl
theorem dX10_nextToken_81 : decode cX10_nextToken 81 = .ok (.aload_n 0, 1) := dz_at dqX10_nextToken_p122 12 rfl
theorem dX10_nextToken_82 : decode cX10_nextToken 82 = .ok (.getfield 146, 3) := dz_at dqX10_nextToken_p122 13 rfl
set_option maxRecDepth 20000 in
theorem dqX10_nextToken_p123 : dz_rn 85 (cX10_nextToken.data.toList.drop 85) [(0, 10), (2, 0), (2, 0), (3, 2), (4, 7), (0, 4)] = some [(85, .iaload, 1), (86, .bipush 97, 2), (88, .bipush 122, 2), (90, .invokestatic 93, 3), (93, .ifCond .eq 129, 3), (96, .aload_n 0, 1)] := by decide +kernel
theorem dX10_nextToken_85 : decode cX10_nextToken 85 = .ok (.iaload, 1) := dz_at dqX10_nextToken_p123 0 rfl
theorem dX10_nextToken_86 : decode cX10_nextToken 86 = .ok (.bipush 97, 2) := dz_at dqX10_nextToken_p123 1 rfl
theorem dX10_nextToken_88 : decode cX10_nextToken 88 = .ok (.bipush 122, 2) := dz_at dqX10_nextToken_p123 2 rfl
theorem dX10_nextToken_90 : decode cX10_nextToken 90 = .ok (.invokestatic 93, 3) := dz_at dqX10_nextToken_p123 3 rfl
theorem dX10_nextToken_93 : decode cX10_nextToken 93 = .ok (.ifCond .eq 129, 3) := dz_at dqX10_nextToken_p123 4 rfl
theorem dX10_nextToken_96 : decode cX10_nextToken 96 = .ok (.aload_n 0, 1) := dz_at dqX10_nextToken_p123 5 rfl
theorem dX10_nextToken_97 : decode cX10_nextToken 97 = .ok (.lconst 0, 1) := by decide +kernel
set_option maxRecDepth 20000 in
theorem dqX10_nextToken_p124 : dz_rn 98 (cX10_nextToken.data.toList.drop 98) [(3, 3), (0, 4), (3, 0), (0, 4), (3, 0), (4, 4), (0, 4), (3, 0), (0, 4), (3, 0), (0, 10), (2, 0), (2, 0), (3, 2)] = some [(98, .putfield 160, 3), (101, .aload_n 0, 1), (102, .getfield 146, 3), (105, .aload_n 0, 1), (106, .getfield 141, 3), (109, .if_icmp .ge 82, 3), (112, .aload_n 0, 1), (113, .getfield 62, 3), (116, .aload_n 0, 1), (117, .getfield 146, 3), (120, .iaload, 1), (121, .bipush 97, 2), (123, .bipush 122, 2), (125, .invokestatic 93, 3)] := by decide +kernel
theorem dX10_nextToken_98 : decode cX10_nextToken 98 = .ok (.putfield 160, 3) := dz_at dqX10_nextToken_p124 0 rfl
theorem dX10_nextToken_101 : decode cX10_nextToken 101 = .ok (.aload_n 0, 1) := dz_at dqX10_nextToken_p124 1 rfl
theorem dX10_nextToken_102 : decode cX10_nextToken 102 = .ok (.getfield 146, 3) := dz_at dqX10_nextToken_p124 2 rfl
theorem dX10_nextToken_105 : decode cX10_nextToken 105 = .ok (.aload_n 0, 1) := dz_at dqX10_nextToken_p124 3 rfl
theorem dX10_nextToken_106 : decode cX10_nextToken 106 = .ok (.getfield 141, 3) := dz_at dqX10_nextToken_p124 4 rfl
theorem dX10_nextToken_109 : decode cX10_nextToken 109 = .ok (.if_icmp .ge 82, 3) := dz_at dqX10_nextToken_p124 5 rfl
theorem dX10_nextToken_112 : decode cX10_nextToken 112 = .ok (.aload_n 0, 1) := dz_at dqX10_nextToken_p124 6 rfl
theorem dX10_nextToken_113 : decode cX10_nextToken 113 = .ok (.getfield 62, 3) := dz_at dqX10_nextToken_p124 7 rfl
theorem dX10_nextToken_116 : decode cX10_nextToken 116 = .ok (.aload_n 0, 1) := dz_at dqX10_nextToken_p124 8 rfl
theorem dX10_nextToken_117 : decode cX10_nextToken 117 = .ok (.getfield 146, 3) := dz_at dqX10_nextToken_p124 9 rfl
theorem dX10_nextToken_120 : decode cX10_nextToken 120 = .ok (.iaload, 1) := dz_at dqX10_nextToken_p124 10 rfl
theorem dX10_nextToken_121 : decode cX10_nextToken 121 = .ok (.bipush 97, 2) := dz_at dqX10_nextToken_p124 11 rfl
theorem dX10_nextToken_123 : decode cX10_nextToken 123 = .ok (.bipush 122, 2) := dz_at dqX10_nextToken_p124 12 rfl
theorem dX10_nextToken_125 : decode cX10_nextToken 125 = .ok (.invokestatic 93, 3) := dz_at dqX10_nextToken_p124 13 rfl
set_option maxRecDepth 20000 in
theorem dqX10_nextToken_p125 : dz_rn 128 (cX10_nextToken.data.toList.drop 128) [(4, 7), (0, 4), (0, 4), (3, 0), (0, 4), (3, 0), (0, 26), (2, 0), (4, 4), (3, 4), (0, 4), (3, 0)] = some [(128, .ifCond .eq 63, 3), (131, .aload_n 0, 1), (132, .aload_n 0, 1), (133, .getfield 146, 3), (136, .aload_n 0, 1), (137, .getfield 149, 3), (140, .isub, 1), (141, .bipush 9, 2), (143, .if_icmp .ge 29, 3), (146, .ldc2_w 164, 3), (149, .aload_n 0, 1), (150, .getfield 160, 3)] := by decide +kernel
theorem dX10_nextToken_128 : decode cX10_nextToken 128 = .ok (.ifCond .eq 63, 3) := dz_at dqX10_nextToken_p125 0 rfl
theorem dX10_nextToken_131 : decode cX10_nextToken 131 = .ok (.aload_n 0, 1) := dz_at dqX10_nextToken_p125 1 rfl
theorem dX10_nextToken_132 : decode cX10_nextToken 132 = .ok (.aload_n 0, 1) := dz_at dqX10_nextToken_p125 2 rfl
theorem dX10_nextToken_133 : decode cX10_nextToken 133 = .ok (.getfield 146, 3) := dz_at dqX10_nextToken_p125 3 rfl
theorem dX10_nextToken_136 : decode cX10_nextToken 136 = .ok (.aload_n 0, 1) := dz_at dqX10_nextToken_p125 4 rfl
theorem dX10_nextToken_137 : decode cX10_nextToken 137 = .ok (.getfield 149, 3) := dz_at dqX10_nextToken_p125 5 rfl
theorem dX10_nextToken_140 : decode cX10_nextToken 140 = .ok (.isub, 1) := dz_at dqX10_nextToken_p125 6 rfl
theorem dX10_nextToken_141 : decode cX10_nextToken 141 = .ok (.bipush 9, 2) := dz_at dqX10_nextToken_p125 7 rfl
theorem dX10_nextToken_143 : decode cX10_nextToken 143 = .ok (.if_icmp .ge 29, 3) := dz_at dqX10_nextToken_p125 8 rfl
theorem dX10_nextToken_146 : decode cX10_nextToken 146 = .ok (.ldc2_w 164, 3) := dz_at dqX10_nextToken_p125 9 rfl
theorem dX10_nextToken_149 : decode cX10_nextToken 149 = .ok (.aload_n 0, 1) := dz_at dqX10_nextToken_p125 10 rfl
theorem dX10_nextToken_150 : decode cX10_nextToken 150 = .ok (.getfield 160, 3) := dz_at dqX10_nextToken_p125 11 rfl
theorem dX10_nextToken_153 : decode cX10_nextToken 153 = .ok (.lmul, 1) := by decide +kernel
set_option maxRecDepth 20000 in
theorem dqX10_nextToken_p126 : dz_rn 154 (cX10_nextToken.data.toList.drop 154) [(0, 4), (3, 0), (0, 4), (3, 0), (0, 10), (0, 33)] = some [(154, .aload_n 0, 1), (155, .getfield 62, 3), (158, .aload_n 0, 1), (159, .getfield 146, 3), (162, .iaload, 1), (163, .i2l, 1)] := by decide +kernel
theorem dX10_nextToken_154 : decode cX10_nextToken 154 = .ok (.aload_n 0, 1) := dz_at dqX10_nextToken_p126 0 rfl
theorem dX10_nextToken_155 : decode cX10_nextToken 155 = .ok (.getfield 62, 3) := dz_at dqX10_nextToken_p126 1 rfl
theorem dX10_nextToken_158 : decode cX10_nextToken 158 = .ok (.aload_n 0, 1) := dz_at dqX10_nextToken_p126 2 rfl
theorem dX10_nextToken_159 : decode cX10_nextToken 159 = .ok (.getfield 146, 3) := dz_at dqX10_nextToken_p126 3 rfl
theorem dX10_nextToken_162 : decode cX10_nextToken 162 = .ok (.iaload, 1) := dz_at dqX10_nextToken_p126 4 rfl
theorem dX10_nextToken_163 : decode cX10_nextToken 163 = .ok (.i2l, 1) := dz_at dqX10_nextToken_p126 5 rfl
theorem dX10_nextToken_164 : decode cX10_nextToken 164 = .ok (.ladd, 1) := by decide +kernel
theorem dX10_nextToken_165 : decode cX10_nextToken 165 = .ok (.ldc2_w 166, 3) := by decide +kernel
theorem dX10_nextToken_168 : decode cX10_nextToken 168 = .ok (.lsub, 1) := by decide +kernel
set_option maxRecDepth 20000 in
theorem dqX10_nextToken_p127 : dz_rn 169 (cX10_nextToken.data.toList.drop 169) [(4, 0), (3, 4), (3, 3), (0, 4), (0, 28), (3, 0), (0, 9), (0, 11), (3, 3), (4, 0), (0, 4), (0, 4), (3, 0), (0, 4)] = some [(169, .goto 6, 3), (172, .ldc2_w 168, 3), (175, .putfield 160, 3), (178, .aload_n 0, 1), (179, .dup, 1), (180, .getfield 146, 3), (183, .iconst 1, 1), (184, .iadd, 1), (185, .putfield 146, 3), (188, .goto (-87), 3), (191, .aload_n 0, 1), (192, .aload_n 0, 1), (193, .getfield 146, 3), (196, .aload_n 0, 1)] := by decide +kernel
theorem dX10_nextToken_169 : decode cX10_nextToken 169 = .ok (.goto 6, 3) := dz_at dqX10_nextToken_p127 0 rfl
theorem dX10_nextToken_172 : decode cX10_nextToken 172 = .ok (.ldc2_w 168, 3) := dz_at dqX10_nextToken_p127 1 rfl
theorem dX10_nextToken_175 : decode cX10_nextToken 175 = .ok (.putfield 160, 3) := dz_at dqX10_nextToken_p127 2 rfl
theorem dX10_nextToken_178 : decode cX10_nextToken 178 = .ok (.aload_n 0, 1) := dz_at dqX10_nextToken_p127 3 rfl
theorem dX10_nextToken_179 : decode cX10_nextToken 179 = .ok (.dup, 1) := dz_at dqX10_nextToken_p127 4 rfl
theorem dX10_nextToken_180 : decode cX10_nextToken 180 = .ok (.getfield 146, 3) := dz_at dqX10_nextToken_p127 5 rfl
theorem dX10_nextToken_183 : decode cX10_nextToken 183 = .ok (.iconst 1, 1) := dz_at dqX10_nextToken_p127 6 rfl
theorem dX10_nextToken_184 : decode cX10_nextToken 184 = .ok (.iadd, 1) := dz_at dqX10_nextToken_p127 7 rfl
theorem dX10_nextToken_185 : decode cX10_nextToken 185 = .ok (.putfield 146, 3) := dz_at dqX10_nextToken_p127 8 rfl
theorem dX10_nextToken_188 : decode cX10_nextToken 188 = .ok (.goto (-87), 3) := dz_at dqX10_nextToken_p127 9 rfl
theorem dX10_nextToken_191 : decode cX10_nextToken 191 = .ok (.aload_n 0, 1) := dz_at dqX10_nextToken_p127 10 rfl
theorem dX10_nextToken_192 : decode cX10_nextToken 192 = .ok (.aload_n 0, 1) := dz_at dqX10_nextToken_p127 11 rfl
theorem dX10_nextToken_193 : decode cX10_nextToken 193 = .ok (.getfield 146, 3) := dz_at dqX10_nextToken_p127 12 rfl
theorem dX10_nextToken_196 : decode cX10_nextToken 196 = .ok (.aload_n 0, 1) := dz_at dqX10_nextToken_p127 13 rfl
set_option maxRecDepth 20000 in
theorem dqX10_nextToken_p128 : dz_rn 197 (cX10_nextToken.data.toList.drop 197) [(3, 0), (0, 26), (2, 0), (4, 6), (3, 4), (4, 0), (0, 4), (3, 0), (3, 3), (4, 0), (0, 4), (3, 0), (0, 4), (3, 0)] = some [(197, .getfield 149, 3), (200, .isub, 1), (201, .bipush 9, 2), (203, .if_icmp .le 9, 3), (206, .ldc2_w 168, 3), (209, .goto 7, 3), (212, .aload_n 0, 1), (213, .getfield 160, 3), (216, .putfield 160, 3), (219, .goto 175, 3), (222, .aload_n 0, 1), (223, .getfield 62, 3), (226, .aload_n 0, 1), (227, .getfield 146, 3)] := by decide +kernel
theorem dX10_nextToken_197 : decode cX10_nextToken 197 = .ok (.getfield 149, 3) := dz_at dqX10_nextToken_p128 0 rfl
theorem dX10_nextToken_200 : decode cX10_nextToken 200 = .ok (.isub, 1) := dz_at dqX10_nextToken_p128 1 rfl
theorem dX10_nextToken_201 : decode cX10_nextToken 201 = .ok (.bipush 9, 2) := dz_at dqX10_nextToken_p128 2 rfl
theorem dX10_nextToken_203 : decode cX10_nextToken 203 = .ok (.if_icmp .le 9, 3) := dz_at dqX10_nextToken_p128 3 rfl
theorem dX10_nextToken_206 : decode cX10_nextToken 206 = .ok (.ldc2_w 168, 3) := dz_at dqX10_nextToken_p128 4 rfl
theorem dX10_nextToken_209 : decode cX10_nextToken 209 = .ok (.goto 7, 3) := dz_at dqX10_nextToken_p128 5 rfl
theorem dX10_nextToken_212 : decode cX10_nextToken 212 = .ok (.aload_n 0, 1) := dz_at dqX10_nextToken_p128 6 rfl
theorem dX10_nextToken_213 : decode cX10_nextToken 213 = .ok (.getfield 160, 3) := dz_at dqX10_nextToken_p128 7 rfl
theorem dX10_nextToken_216 : decode cX10_nextToken 216 = .ok (.putfield 160, 3) := dz_at dqX10_nextToken_p128 8 rfl
theorem dX10_nextToken_219 : decode cX10_nextToken 219 = .ok (.goto 175, 3) := dz_at dqX10_nextToken_p128 9 rfl
theorem dX10_nextToken_222 : decode cX10_nextToken 222 = .ok (.aload_n 0, 1) := dz_at dqX10_nextToken_p128 10 rfl
theorem dX10_nextToken_223 : decode cX10_nextToken 223 = .ok (.getfield 62, 3) := dz_at dqX10_nextToken_p128 11 rfl
theorem dX10_nextToken_226 : decode cX10_nextToken 226 = .ok (.aload_n 0, 1) := dz_at dqX10_nextToken_p128 12 rfl
theorem dX10_nextToken_227 : decode cX10_nextToken 227 = .ok (.getfield 146, 3) := dz_at dqX10_nextToken_p128 13 rfl
set_option maxRecDepth 20000 in
theorem dqX10_nextToken_p129 : dz_rn 230 (cX10_nextToken.data.toList.drop 230) [(0, 10), (2, 0), (2, 0), (3, 2), (4, 7), (0, 4), (3, 0), (0, 4), (3, 0), (4, 4), (0, 4), (3, 0), (0, 4), (3, 0)] = some [(230, .iaload, 1), (231, .bipush 48, 2), (233, .bipush 57, 2), (235, .invokestatic 93, 3), (238, .ifCond .eq 119, 3), (241, .aload_n 0, 1), (242, .getfield 146, 3), (245, .aload_n 0, 1), (246, .getfield 141, 3), (249, .if_icmp .ge 84, 3), (252, .aload_n 0, 1), (253, .getfield 62, 3), (256, .aload_n 0, 1), (257, .getfield 146, 3)] := by decide +kernel
theorem dX10_nextToken_230 : decode cX10_nextToken 230 = .ok (.iaload, 1) := dz_at dqX10_nextToken_p129 0 rfl
theorem dX10_nextToken_231 : decode cX10_nextToken 231 = .ok (.bipush 48, 2) := dz_at dqX10_nextToken_p129 1 rfl
theorem dX10_nextToken_233 : decode cX10_nextToken 233 = .ok (.bipush 57, 2) := dz_at dqX10_nextToken_p129 2 rfl
theorem dX10_nextToken_235 : decode cX10_nextToken 235 = .ok (.invokestatic 93, 3) := dz_at dqX10_nextToken_p129 3 rfl
theorem dX10_nextToken_238 : decode cX10_nextToken 238 = .ok (.ifCond .eq 119, 3) := dz_at dqX10_nextToken_p129 4 rfl
theorem dX10_nextToken_241 : decode cX10_nextToken 241 = .ok (.aload_n 0, 1) := dz_at dqX10_nextToken_p129 5 rfl
theorem dX10_nextToken_242 : decode cX10_nextToken 242 = .ok (.getfield 146, 3) := dz_at dqX10_nextToken_p129 6 rfl
theorem dX10_nextToken_245 : decode cX10_nextToken 245 = .ok (.aload_n 0, 1) := dz_at dqX10_nextToken_p129 7 rfl
theorem dX10_nextToken_246 : decode cX10_nextToken 246 = .ok (.getfield 141, 3) := dz_at dqX10_nextToken_p129 8 rfl
theorem dX10_nextToken_249 : decode cX10_nextToken 249 = .ok (.if_icmp .ge 84, 3) := dz_at dqX10_nextToken_p129 9 rfl
theorem dX10_nextToken_252 : decode cX10_nextToken 252 = .ok (.aload_n 0, 1) := dz_at dqX10_nextToken_p129 10 rfl
theorem dX10_nextToken_253 : decode cX10_nextToken 253 = .ok (.getfield 62, 3) := dz_at dqX10_nextToken_p129 11 rfl
theorem dX10_nextToken_256 : decode cX10_nextToken 256 = .ok (.aload_n 0, 1) := dz_at dqX10_nextToken_p129 12 rfl
theorem dX10_nextToken_257 : decode cX10_nextToken 257 = .ok (.getfield 146, 3) := dz_at dqX10_nextToken_p129 13 rfl
set_option maxRecDepth 20000 in
theorem dqX10_nextToken_p1210 : dz_rn 260 (cX10_nextToken.data.toList.drop 260) [(0, 10), (2, 0), (2, 0), (3, 2), (4, 7), (0, 4), (0, 4), (3, 0), (0, 14), (4, 4), (2, 0), (0, 4), (3, 0), (0, 23)] = some [(260, .iaload, 1), (261, .bipush 48, 2), (263, .bipush 57, 2), (265, .invokestatic 93, 3), (268, .ifCond .eq 65, 3), (271, .aload_n 0, 1), (272, .aload_n 0, 1), (273, .getfield 152, 3), (276, .iconst 2, 1), (277, .if_icmp .ge 26, 3), (280, .bipush 10, 2), (282, .aload_n 0, 1), (283, .getfield 155, 3), (286, .imul, 1)] := by decide +kernel
theorem dX10_nextToken_260 : decode cX10_nextToken 260 = .ok (.iaload, 1) := dz_at dqX10_nextToken_p1210 0 rfl
theorem dX10_nextToken_261 : decode cX10_nextToken 261 = .ok (.bipush 48, 2) := dz_at dqX10_nextToken_p1210 1 rfl
theorem dX10_nextToken_263 : decode cX10_nextToken 263 = .ok (.bipush 57, 2) := dz_at dqX10_nextToken_p1210 2 rfl
theorem dX10_nextToken_265 : decode cX10_nextToken 265 = .ok (.invokestatic 93, 3) := dz_at dqX10_nextToken_p1210 3 rfl
theorem dX10_nextToken_268 : decode cX10_nextToken 268 = .ok (.ifCond .eq 65, 3) := dz_at dqX10_nextToken_p1210 4 rfl
theorem dX10_nextToken_271 : decode cX10_nextToken 271 = .ok (.aload_n 0, 1) := dz_at dqX10_nextToken_p1210 5 rfl
theorem dX10_nextToken_272 : decode cX10_nextToken 272 = .ok (.aload_n 0, 1) := dz_at dqX10_nextToken_p1210 6 rfl
theorem dX10_nextToken_273 : decode cX10_nextToken 273 = .ok (.getfield 152, 3) := dz_at dqX10_nextToken_p1210 7 rfl
theorem dX10_nextToken_276 : decode cX10_nextToken 276 = .ok (.iconst 2, 1) := dz_at dqX10_nextToken_p1210 8 rfl
theorem dX10_nextToken_277 : decode cX10_nextToken 277 = .ok (.if_icmp .ge 26, 3) := dz_at dqX10_nextToken_p1210 9 rfl
theorem dX10_nextToken_280 : decode cX10_nextToken 280 = .ok (.bipush 10, 2) := dz_at dqX10_nextToken_p1210 10 rfl
theorem dX10_nextToken_282 : decode cX10_nextToken 282 = .ok (.aload_n 0, 1) := dz_at dqX10_nextToken_p1210 11 rfl
theorem dX10_nextToken_283 : decode cX10_nextToken 283 = .ok (.getfield 155, 3) := dz_at dqX10_nextToken_p1210 12 rfl
theorem dX10_nextToken_286 : decode cX10_nextToken 286 = .ok (.imul, 1) := dz_at dqX10_nextToken_p1210 13 rfl
set_option maxRecDepth 20000 in
theorem dqX10_nextToken_p1211 : dz_rn 287 (cX10_nextToken.data.toList.drop 287) [(0, 4), (3, 0), (0, 4), (3, 0), (0, 10), (0, 11), (2, 0), (0, 26), (4, 0), (0, 4), (3, 0), (3, 3), (0, 4), (0, 28)] = some [(287, .aload_n 0, 1), (288, .getfield 62, 3), (291, .aload_n 0, 1), (292, .getfield 146, 3), (295, .iaload, 1), (296, .iadd, 1), (297, .bipush 48, 2), (299, .isub, 1), (300, .goto 7, 3), (303, .aload_n 0, 1), (304, .getfield 155, 3), (307, .putfield 155, 3), (310, .aload_n 0, 1), (311, .dup, 1)] := by decide +kernel
theorem dX10_nextToken_287 : decode cX10_nextToken 287 = .ok (.aload_n 0, 1) := dz_at dqX10_nextToken_p1211 0 rfl
theorem dX10_nextToken_288 : decode cX10_nextToken 288 = .ok (.getfield 62, 3) := dz_at dqX10_nextToken_p1211 1 rfl
theorem dX10_nextToken_291 : decode cX10_nextToken 291 = .ok (.aload_n 0, 1) := dz_at dqX10_nextToken_p1211 2 rfl
theorem dX10_nextToken_292 : decode cX10_nextToken 292 = .ok (.getfield 146, 3) := dz_at dqX10_nextToken_p1211 3 rfl
theorem dX10_nextToken_295 : decode cX10_nextToken 295 = .ok (.iaload, 1) := dz_at dqX10_nextToken_p1211 4 rfl
theorem dX10_nextToken_296 : decode cX10_nextToken 296 = .ok (.iadd, 1) := dz_at dqX10_nextToken_p1211 5 rfl
theorem dX10_nextToken_297 : decode cX10_nextToken 297 = .ok (.bipush 48, 2) := dz_at dqX10_nextToken_p1211 6 rfl
theorem dX10_nextToken_299 : decode cX10_nextToken 299 = .ok (.isub, 1) := dz_at dqX10_nextToken_p1211 7 rfl
theorem dX10_nextToken_300 : decode cX10_nextToken 300 = .ok (.goto 7, 3) := dz_at dqX10_nextToken_p1211 8 rfl
theorem dX10_nextToken_303 : decode cX10_nextToken 303 = .ok (.aload_n 0, 1) := dz_at dqX10_nextToken_p1211 9 rfl
theorem dX10_nextToken_304 : decode cX10_nextToken 304 = .ok (.getfield 155, 3) := dz_at dqX10_nextToken_p1211 10 rfl
theorem dX10_nextToken_307 : decode cX10_nextToken 307 = .ok (.putfield 155, 3) := dz_at dqX10_nextToken_p1211 11 rfl
theorem dX10_nextToken_310 : decode cX10_nextToken 310 = .ok (.aload_n 0, 1) := dz_at dqX10_nextToken_p1211 12 rfl
theorem dX10_nextToken_311 : decode cX10_nextToken 311 = .ok (.dup, 1) := dz_at dqX10_nextToken_p1211 13 rfl
set_option maxRecDepth 20000 in
theorem dqX10_nextToken_p1212 : dz_rn 312 (cX10_nextToken.data.toList.drop 312) [(3, 0), (0, 9), (0, 11), (3, 3), (0, 4), (0, 28), (3, 0), (0, 9), (0, 11), (3, 3), (4, 0), (0, 4), (0, 4), (3, 0)] = some [(312, .getfield 152, 3), (315, .iconst 1, 1), (316, .iadd, 1), (317, .putfield 152, 3), (320, .aload_n 0, 1), (321, .dup, 1), (322, .getfield 146, 3), (325, .iconst 1, 1), (326, .iadd, 1), (327, .putfield 146, 3), (330, .goto (-89), 3), (333, .aload_n 0, 1), (334, .aload_n 0, 1), (335, .getfield 152, 3)] := by decide +kernel
theorem dX10_nextToken_312 : decode cX10_nextToken 312 = .ok (.getfield 152, 3) := dz_at dqX10_nextToken_p1212 0 rfl
theorem dX10_nextToken_315 : decode cX10_nextToken 315 = .ok (.iconst 1, 1) := dz_at dqX10_nextToken_p1212 1 rfl
theorem dX10_nextToken_316 : decode cX10_nextToken 316 = .ok (.iadd, 1) := dz_at dqX10_nextToken_p1212 2 rfl
theorem dX10_nextToken_317 : decode cX10_nextToken 317 = .ok (.putfield 152, 3) := dz_at dqX10_nextToken_p1212 3 rfl
theorem dX10_nextToken_320 : decode cX10_nextToken 320 = .ok (.aload_n 0, 1) := dz_at dqX10_nextToken_p1212 4 rfl
theorem dX10_nextToken_321 : decode cX10_nextToken 321 = .ok (.dup, 1) := dz_at dqX10_nextToken_p1212 5 rfl
theorem dX10_nextToken_322 : decode cX10_nextToken 322 = .ok (.getfield 146, 3) := dz_at dqX10_nextToken_p1212 6 rfl
theorem dX10_nextToken_325 : decode cX10_nextToken 325 = .ok (.iconst 1, 1) := dz_at dqX10_nextToken_p1212 7 rfl
theorem dX10_nextToken_326 : decode cX10_nextToken 326 = .ok (.iadd, 1) := dz_at dqX10_nextToken_p1212 8 rfl
theorem dX10_nextToken_327 : decode cX10_nextToken 327 = .ok (.putfield 146, 3) := dz_at dqX10_nextToken_p1212 9 rfl
theorem dX10_nextToken_330 : decode cX10_nextToken 330 = .ok (.goto (-89), 3) := dz_at dqX10_nextToken_p1212 10 rfl
theorem dX10_nextToken_333 : decode cX10_nextToken 333 = .ok (.aload_n 0, 1) := dz_at dqX10_nextToken_p1212 11 rfl
theorem dX10_nextToken_334 : decode cX10_nextToken 334 = .ok (.aload_n 0, 1) := dz_at dqX10_nextToken_p1212 12 rfl
theorem dX10_nextToken_335 : decode cX10_nextToken 335 = .ok (.getfield 152, 3) := dz_at dqX10_nextToken_p1212 13 rfl
set_option maxRecDepth 20000 in
theorem dqX10_nextToken_p1213 : dz_rn 338 (cX10_nextToken.data.toList.drop 338) [(0, 14), (4, 6), (3, 4), (4, 0), (3, 4), (3, 3), (4, 0), (0, 4), (0, 4), (3, 0), (0, 4), (3, 0), (0, 10), (2, 0)] = some [(338, .iconst 2, 1), (339, .if_icmp .le 9, 3), (342, .ldc2_w 168, 3), (345, .goto 6, 3), (348, .ldc2_w 170, 3), (351, .putfield 160, 3), (354, .goto 40, 3), (357, .aload_n 0, 1), (358, .aload_n 0, 1), (359, .getfield 62, 3), (362, .aload_n 0, 1), (363, .getfield 146, 3), (366, .iaload, 1), (367, .bipush 59, 2)] := by decide +kernel
theorem dX10_nextToken_338 : decode cX10_nextToken 338 = .ok (.iconst 2, 1) := dz_at dqX10_nextToken_p1213 0 rfl
theorem dX10_nextToken_339 : decode cX10_nextToken 339 = .ok (.if_icmp .le 9, 3) := dz_at dqX10_nextToken_p1213 1 rfl
theorem dX10_nextToken_342 : decode cX10_nextToken 342 = .ok (.ldc2_w 168, 3) := dz_at dqX10_nextToken_p1213 2 rfl
theorem dX10_nextToken_345 : decode cX10_nextToken 345 = .ok (.goto 6, 3) := dz_at dqX10_nextToken_p1213 3 rfl
theorem dX10_nextToken_348 : decode cX10_nextToken 348 = .ok (.ldc2_w 170, 3) := dz_at dqX10_nextToken_p1213 4 rfl
theorem dX10_nextToken_351 : decode cX10_nextToken 351 = .ok (.putfield 160, 3) := dz_at dqX10_nextToken_p1213 5 rfl
theorem dX10_nextToken_354 : decode cX10_nextToken 354 = .ok (.goto 40, 3) := dz_at dqX10_nextToken_p1213 6 rfl
theorem dX10_nextToken_357 : decode cX10_nextToken 357 = .ok (.aload_n 0, 1) := dz_at dqX10_nextToken_p1213 7 rfl
theorem dX10_nextToken_358 : decode cX10_nextToken 358 = .ok (.aload_n 0, 1) := dz_at dqX10_nextToken_p1213 8 rfl
theorem dX10_nextToken_359 : decode cX10_nextToken 359 = .ok (.getfield 62, 3) := dz_at dqX10_nextToken_p1213 9 rfl
theorem dX10_nextToken_362 : decode cX10_nextToken 362 = .ok (.aload_n 0, 1) := dz_at dqX10_nextToken_p1213 10 rfl
theorem dX10_nextToken_363 : decode cX10_nextToken 363 = .ok (.getfield 146, 3) := dz_at dqX10_nextToken_p1213 11 rfl
theorem dX10_nextToken_366 : decode cX10_nextToken 366 = .ok (.iaload, 1) := dz_at dqX10_nextToken_p1213 12 rfl
theorem dX10_nextToken_367 : decode cX10_nextToken 367 = .ok (.bipush 59, 2) := dz_at dqX10_nextToken_p1213 13 rfl
set_option maxRecDepth 20000 in
theorem dqX10_nextToken_p1214 : dz_rn 369 (cX10_nextToken.data.toList.drop 369) [(4, 2), (3, 4), (4, 0), (3, 4), (3, 3), (0, 4), (0, 28), (3, 0), (0, 9), (0, 11), (3, 3), (0, 25)] = some [(369, .if_icmp .ne 9, 3), (372, .ldc2_w 172, 3), (375, .goto 6, 3), (378, .ldc2_w 168, 3), (381, .putfield 160, 3), (384, .aload_n 0, 1), (385, .dup, 1), (386, .getfield 146, 3), (389, .iconst 1, 1), (390, .iadd, 1), (391, .putfield 146, 3), (394, .return_, 1)] := by decide +kernel
theorem dX10_nextToken_369 : decode cX10_nextToken 369 = .ok (.if_icmp .ne 9, 3) := dz_at dqX10_nextToken_p1214 0 rfl
theorem dX10_nextToken_372 : decode cX10_nextToken 372 = .ok (.ldc2_w 172, 3) := dz_at dqX10_nextToken_p1214 1 rfl
theorem dX10_nextToken_375 : decode cX10_nextToken 375 = .ok (.goto 6, 3) := dz_at dqX10_nextToken_p1214 2 rfl
theorem dX10_nextToken_378 : decode cX10_nextToken 378 = .ok (.ldc2_w 168, 3) := dz_at dqX10_nextToken_p1214 3 rfl
theorem dX10_nextToken_381 : decode cX10_nextToken 381 = .ok (.putfield 160, 3) := dz_at dqX10_nextToken_p1214 4 rfl
theorem dX10_nextToken_384 : decode cX10_nextToken 384 = .ok (.aload_n 0, 1) := dz_at dqX10_nextToken_p1214 5 rfl
theorem dX10_nextToken_385 : decode cX10_nextToken 385 = .ok (.dup, 1) := dz_at dqX10_nextToken_p1214 6 rfl
theorem dX10_nextToken_386 : decode cX10_nextToken 386 = .ok (.getfield 146, 3) := dz_at dqX10_nextToken_p1214 7 rfl
theorem dX10_nextToken_389 : decode cX10_nextToken 389 = .ok (.iconst 1, 1) := dz_at dqX10_nextToken_p1214 8 rfl
theorem dX10_nextToken_390 : decode cX10_nextToken 390 = .ok (.iadd, 1) := dz_at dqX10_nextToken_p1214 9 rfl
theorem dX10_nextToken_391 : decode cX10_nextToken 391 = .ok (.putfield 146, 3) := dz_at dqX10_nextToken_p1214 10 rfl
theorem dX10_nextToken_394 : decode cX10_nextToken 394 = .ok (.return_, 1) := dz_at dqX10_nextToken_p1214 11 rfl
set_option maxRecDepth 20000 in
theorem dqX10_fails_p120 : dz_rn 0 (cX10_fails.data.toList.drop 0) [(0, 4), (0, 4), (3, 0), (3, 3), (0, 8), (0, 12)] = some [(0, .aload_n 0, 1), (1, .aload_n 0, 1), (2, .getfield 149, 3), (5, .putfield 174, 3), (8, .iconst 0, 1), (9, .ireturn, 1)] := by decide +kernel
theorem dX10_fails_0 : decode cX10_fails 0 = .ok (.aload_n 0, 1) := dz_at dqX10_fails_p120 0 rfl
theorem dX10_fails_1 : decode cX10_fails 1 = .ok (.aload_n 0, 1) := dz_at dqX10_fails_p120 1 rfl
theorem dX10_fails_2 : decode cX10_fails 2 = .ok (.getfield 149, 3) := dz_at dqX10_fails_p120 2 rfl
theorem dX10_fails_5 : decode cX10_fails 5 = .ok (.putfield 174, 3) := dz_at dqX10_fails_p120 3 rfl
theorem dX10_fails_8 : decode cX10_fails 8 = .ok (.iconst 0, 1) := dz_at dqX10_fails_p120 4 rfl
theorem dX10_fails_9 : decode cX10_fails 9 = .ok (.ireturn, 1) := dz_at dqX10_fails_p120 5 rfl
set_option maxRecDepth 20000 in
theorem ggX10_isNumber_X10_nextToken : GoodIn wsX10_isNumber wsX10_nextToken := goodIn_r _ [9, 10, 11, 12, 13, 14, 3, 15, 1, 16, 17, 18, 2, 19, 20, 21, 8, 22, 28, 29, 30, 31, 32, 33, 34, 35, 36, 37, 38, 39, 40, 41, 42, 43, 44, 45, 46, 47, 48, 49, 50, 51, 52, 53, 54, 55, 56, 57, 58, 59, 60, 61, 62, 63, 64, 65, 66] rfl (by decide +kernel)
set_option maxRecDepth 20000 in
theorem gX10_isNumber_X10_nextToken : GoodIn wsX10_isNumber (wsV RX10 177 RX10 yX10_nextToken wsX10_nextToken) := goodIn_app (goodIn_of _ (by decide +kernel)) ggX10_isNumber_X10_nextToken
set_option maxRecDepth 20000 in
theorem ggX10_isNumber_X10_in : GoodIn wsX10_isNumber wsX10_in := goodIn_r _ [22] rfl (by decide +kernel)
set_option maxRecDepth 20000 in
theorem gX10_isNumber_X10_in : GoodIn wsX10_isNumber (va_wsS RX10 93 yX10_in wsX10_in) := goodIn_app (goodIn_of _ (by decide +kernel)) ggX10_isNumber_X10_in
set_option maxRecDepth 20000 in
theorem ggX10_isNumber_X10_fails : GoodIn wsX10_isNumber wsX10_fails := goodIn_r _ [26, 13, 27, 28, 29, 30, 31, 32, 33, 34, 35, 36, 37, 38, 39, 40, 41, 42, 43, 44, 45, 46, 47, 48, 49, 50, 51, 52, 53, 54, 55, 56, 57, 58, 59, 60, 61, 62, 63, 64, 65, 66] rfl (by decide +kernel)
set_option maxRecDepth 20000 in
theorem gX10_isNumber_X10_fails : GoodIn wsX10_isNumber (wsV RX10 180 RX10 yX10_fails wsX10_fails) := goodIn_app (goodIn_of _ (by decide +kernel)) ggX10_isNumber_X10_fails
set_option maxRecDepth 20000 in
theorem dqX10_isNumber_p120 : dz_rn 0 (cX10_isNumber.data.toList.drop 0) [(0, 4), (3, 1), (0, 4), (3, 0), (3, 4), (0, 40), (4, 8), (0, 4), (3, 0), (0, 2), (0, 3), (3, 2), (4, 8), (0, 4)] = some [(0, .aload_n 0, 1), (1, .invokevirtual 177, 3), (4, .aload_n 0, 1), (5, .getfield 160, 3), (8, .ldc2_w 170, 3), (11, .lcmp, 1), (12, .ifCond .ne 15, 3), (15, .aload_n 0, 1), (16, .getfield 155, 3), (19, .iload_n 2, 1), (20, .iload_n 3, 1), (21, .invokestatic 93, 3), (24, .ifCond .ne 8, 3), (27, .aload_n 0, 1)] := by decide +kernel
theorem dX10_isNumber_0 : decode cX10_isNumber 0 = .ok (.aload_n 0, 1) := dz_at dqX10_isNumber_p120 0 rfl
theorem dX10_isNumber_1 : decode cX10_isNumber 1 = .ok (.invokevirtual 177, 3) := dz_at dqX10_isNumber_p120 1 rfl
theorem dX10_isNumber_4 : decode cX10_isNumber 4 = .ok (.aload_n 0, 1) := dz_at dqX10_isNumber_p120 2 rfl
theorem dX10_isNumber_5 : decode cX10_isNumber 5 = .ok (.getfield 160, 3) := dz_at dqX10_isNumber_p120 3 rfl
theorem dX10_isNumber_8 : decode cX10_isNumber 8 = .ok (.ldc2_w 170, 3) := dz_at dqX10_isNumber_p120 4 rfl
theorem dX10_isNumber_11 : decode cX10_isNumber 11 = .ok (.lcmp, 1) := dz_at dqX10_isNumber_p120 5 rfl
theorem dX10_isNumber_12 : decode cX10_isNumber 12 = .ok (.ifCond .ne 15, 3) := dz_at dqX10_isNumber_p120 6 rfl
theorem dX10_isNumber_15 : decode cX10_isNumber 15 = .ok (.aload_n 0, 1) := dz_at dqX10_isNumber_p120 7 rfl
theorem dX10_isNumber_16 : decode cX10_isNumber 16 = .ok (.getfield 155, 3) := dz_at dqX10_isNumber_p120 8 rfl
theorem dX10_isNumber_19 : decode cX10_isNumber 19 = .ok (.iload_n 2, 1) := dz_at dqX10_isNumber_p120 9 rfl
theorem dX10_isNumber_20 : decode cX10_isNumber 20 = .ok (.iload_n 3, 1) := dz_at dqX10_isNumber_p120 10 rfl
theorem dX10_isNumber_21 : decode cX10_isNumber 21 = .ok (.invokestatic 93, 3) := dz_at dqX10_isNumber_p120 11 rfl
theorem dX10_isNumber_24 : decode cX10_isNumber 24 = .ok (.ifCond .ne 8, 3) := dz_at dqX10_isNumber_p120 12 rfl
theorem dX10_isNumber_27 : decode cX10_isNumber 27 = .ok (.aload_n 0, 1) := dz_at dqX10_isNumber_p120 13 rfl
set_option maxRecDepth 20000 in
theorem dqX10_isNumber_p121 : dz_rn 28 (cX10_isNumber.data.toList.drop 28) [(3, 1), (0, 12), (0, 4), (3, 0), (0, 1), (0, 4), (3, 0), (0, 22), (0, 9), (0, 12)] = some [(28, .invokevirtual 180, 3), (31, .ireturn, 1), (32, .aload_n 0, 1), (33, .getfield 65, 3), (36, .iload_n 1, 1), (37, .aload_n 0, 1), (38, .getfield 155, 3), (41, .iastore, 1), (42, .iconst 1, 1), (43, .ireturn, 1)] := by decide +kernel
theorem dX10_isNumber_28 : decode cX10_isNumber 28 = .ok (.invokevirtual 180, 3) := dz_at dqX10_isNumber_p121 0 rfl
theorem dX10_isNumber_31 : decode cX10_isNumber 31 = .ok (.ireturn, 1) := dz_at dqX10_isNumber_p121 1 rfl
theorem dX10_isNumber_32 : decode cX10_isNumber 32 = .ok (.aload_n 0, 1) := dz_at dqX10_isNumber_p121 2 rfl
theorem dX10_isNumber_33 : decode cX10_isNumber 33 = .ok (.getfield 65, 3) := dz_at dqX10_isNumber_p121 3 rfl
theorem dX10_isNumber_36 : decode cX10_isNumber 36 = .ok (.iload_n 1, 1) := dz_at dqX10_isNumber_p121 4 rfl
theorem dX10_isNumber_37 : decode cX10_isNumber 37 = .ok (.aload_n 0, 1) := dz_at dqX10_isNumber_p121 5 rfl
theorem dX10_isNumber_38 : decode cX10_isNumber 38 = .ok (.getfield 155, 3) := dz_at dqX10_isNumber_p121 6 rfl
theorem dX10_isNumber_41 : decode cX10_isNumber 41 = .ok (.iastore, 1) := dz_at dqX10_isNumber_p121 7 rfl
theorem dX10_isNumber_42 : decode cX10_isNumber 42 = .ok (.iconst 1, 1) := dz_at dqX10_isNumber_p121 8 rfl
theorem dX10_isNumber_43 : decode cX10_isNumber 43 = .ok (.ireturn, 1) := dz_at dqX10_isNumber_p121 9 rfl
set_option maxRecDepth 20000 in
theorem ggX10_isWord_X10_nextToken : GoodIn wsX10_isWord wsX10_nextToken := goodIn_r _ [6, 7, 8, 9, 10, 11, 12, 13, 1, 14, 15, 16, 17, 18, 19, 20, 5, 21, 27, 28, 29, 30, 31, 32, 33, 34, 35, 36, 37, 38, 39, 40, 41, 42, 43, 44, 45, 46, 47, 48, 49, 50, 51, 52, 53, 54, 55, 56, 57, 58, 59, 60, 61, 62, 63, 64, 65] rfl (by decide +kernel)
set_option maxRecDepth 20000 in
theorem gX10_isWord_X10_nextToken : GoodIn wsX10_isWord (wsV RX10 177 RX10 yX10_nextToken wsX10_nextToken) := goodIn_app (goodIn_of _ (by decide +kernel)) ggX10_isWord_X10_nextToken
set_option maxRecDepth 20000 in
theorem ggX10_isWord_X10_fails : GoodIn wsX10_isWord wsX10_fails := goodIn_r _ [25, 10, 26, 27, 28, 29, 30, 31, 32, 33, 34, 35, 36, 37, 38, 39, 40, 41, 42, 43, 44, 45, 46, 47, 48, 49, 50, 51, 52, 53, 54, 55, 56, 57, 58, 59, 60, 61, 62, 63, 64, 65] rfl (by decide +kernel)
set_option maxRecDepth 20000 in
theorem gX10_isWord_X10_fails : GoodIn wsX10_isWord (wsV RX10 180 RX10 yX10_fails wsX10_fails) := goodIn_app (goodIn_of _ (by decide +kernel)) ggX10_isWord_X10_fails
set_option maxRecDepth 20000 in
theorem dqX10_isWord_p120 : dz_rn 0 (cX10_isWord.data.toList.drop 0) [(0, 4), (3, 1), (0, 4), (3, 0), (0, 35), (0, 40), (4, 7), (0, 4), (3, 1), (4, 7), (0, 9), (4, 0), (0, 8), (0, 12)] = some [(0, .aload_n 0, 1), (1, .invokevirtual 177, 3), (4, .aload_n 0, 1), (5, .getfield 160, 3), (8, .lload_n 1, 1), (9, .lcmp, 1), (10, .ifCond .eq 10, 3), (13, .aload_n 0, 1), (14, .invokevirtual 180, 3), (17, .ifCond .eq 7, 3), (20, .iconst 1, 1), (21, .goto 4, 3), (24, .iconst 0, 1), (25, .ireturn, 1)] := by decide +kernel
theorem dX10_isWord_0 : decode cX10_isWord 0 = .ok (.aload_n 0, 1) := dz_at dqX10_isWord_p120 0 rfl
theorem dX10_isWord_1 : decode cX10_isWord 1 = .ok (.invokevirtual 177, 3) := dz_at dqX10_isWord_p120 1 rfl
theorem dX10_isWord_4 : decode cX10_isWord 4 = .ok (.aload_n 0, 1) := dz_at dqX10_isWord_p120 2 rfl
theorem dX10_isWord_5 : decode cX10_isWord 5 = .ok (.getfield 160, 3) := dz_at dqX10_isWord_p120 3 rfl
theorem dX10_isWord_8 : decode cX10_isWord 8 = .ok (.lload_n 1, 1) := dz_at dqX10_isWord_p120 4 rfl
theorem dX10_isWord_9 : decode cX10_isWord 9 = .ok (.lcmp, 1) := dz_at dqX10_isWord_p120 5 rfl
theorem dX10_isWord_10 : decode cX10_isWord 10 = .ok (.ifCond .eq 10, 3) := dz_at dqX10_isWord_p120 6 rfl
theorem dX10_isWord_13 : decode cX10_isWord 13 = .ok (.aload_n 0, 1) := dz_at dqX10_isWord_p120 7 rfl
theorem dX10_isWord_14 : decode cX10_isWord 14 = .ok (.invokevirtual 180, 3) := dz_at dqX10_isWord_p120 8 rfl
theorem dX10_isWord_17 : decode cX10_isWord 17 = .ok (.ifCond .eq 7, 3) := dz_at dqX10_isWord_p120 9 rfl
theorem dX10_isWord_20 : decode cX10_isWord 20 = .ok (.iconst 1, 1) := dz_at dqX10_isWord_p120 10 rfl
theorem dX10_isWord_21 : decode cX10_isWord 21 = .ok (.goto 4, 3) := dz_at dqX10_isWord_p120 11 rfl
theorem dX10_isWord_24 : decode cX10_isWord 24 = .ok (.iconst 0, 1) := dz_at dqX10_isWord_p120 12 rfl
theorem dX10_isWord_25 : decode cX10_isWord 25 = .ok (.ireturn, 1) := dz_at dqX10_isWord_p120 13 rfl
set_option maxRecDepth 20000 in
theorem ggX10_isLine_X10_nextToken : GoodIn wsX10_isLine wsX10_nextToken := goodIn_r _ [12, 13, 14, 15, 16, 17, 18, 19, 2, 20, 21, 22, 23, 24, 25, 26, 11, 27, 41, 42, 43, 44, 45, 46, 47, 48, 49, 50, 51, 52, 53, 54, 55, 56, 57, 58, 59, 60, 61, 62, 63, 64, 65, 66, 67, 68, 69, 70, 71, 72, 73, 74, 75, 76, 77, 78, 79] rfl (by decide +kernel)
set_option maxRecDepth 20000 in
theorem gX10_isLine_X10_nextToken : GoodIn wsX10_isLine (wsV RX10 177 RX10 yX10_nextToken wsX10_nextToken) := goodIn_app (goodIn_of _ (by decide +kernel)) ggX10_isLine_X10_nextToken
set_option maxRecDepth 20000 in
theorem ggX10_isLine_X10_isNumber : GoodIn wsX10_isLine wsX10_isNumber := goodIn_r _ [31, 2, 23, 18, 1, 8, 9, 10, 11, 12, 13, 14, 15, 16, 17, 19, 20, 21, 22, 24, 25, 26, 27, 32, 33, 34, 35, 36, 41, 42, 43, 44, 45, 46, 47, 48, 49, 50, 51, 52, 53, 54, 55, 56, 57, 58, 59, 60, 61, 62, 63, 64, 65, 66, 67, 68, 69, 70, 71, 72, 73, 74, 75, 76, 77, 78, 79] rfl (by decide +kernel)
set_option maxRecDepth 20000 in
theorem gX10_isLine_X10_isNumber : GoodIn wsX10_isLine (wsV RX10 192 RX10 yX10_isNumber wsX10_isNumber) := goodIn_app (goodIn_of _ (by decide +kernel)) ggX10_isLine_X10_isNumber
set_option maxRecDepth 20000 in
theorem ggX10_isLine_X10_isWord : GoodIn wsX10_isLine wsX10_isWord := goodIn_r _ [40, 2, 8, 9, 10, 11, 12, 13, 14, 15, 16, 17, 18, 19, 20, 21, 22, 23, 24, 25, 26, 27, 32, 33, 34, 35, 36, 41, 42, 43, 44, 45, 46, 47, 48, 49, 50, 51, 52, 53, 54, 55, 56, 57, 58, 59, 60, 61, 62, 63, 64, 65, 66, 67, 68, 69, 70, 71, 72, 73, 74, 75, 76, 77, 78, 79] rfl (by decide +kernel)
set_option maxRecDepth 20000 in
theorem gX10_isLine_X10_isWord : GoodIn wsX10_isLine (wsV RX10 197 RX10 yX10_isWord wsX10_isWord) := goodIn_app (goodIn_of _ (by decide +kernel)) ggX10_isLine_X10_isWord
set_option maxRecDepth 20000 in
theorem ggX10_isLine_X10_fails : GoodIn wsX10_isLine wsX10_fails := goodIn_r _ [35, 16, 36, 41, 42, 43, 44, 45, 46, 47, 48, 49, 50, 51, 52, 53, 54, 55, 56, 57, 58, 59, 60, 61, 62, 63, 64, 65, 66, 67, 68, 69, 70, 71, 72, 73, 74, 75, 76, 77, 78, 79] rfl (by decide +kernel)
set_option maxRecDepth 20000 in
theorem gX10_isLine_X10_fails : GoodIn wsX10_isLine (wsV RX10 180 RX10 yX10_fails wsX10_fails) := goodIn_app (goodIn_of _ (by decide +kernel)) ggX10_isLine_X10_fails
set_option maxRecDepth 20000 in
theorem dqX10_isLine_p120 : dz_rn 0 (cX10_isLine.data.toList.drop 0) [(0, 4), (3, 1), (0, 4), (3, 0), (0, 1), (0, 4), (3, 0), (3, 4), (0, 40), (4, 8), (0, 8), (4, 0), (0, 4), (3, 0)] = some [(0, .aload_n 0, 1), (1, .invokevirtual 177, 3), (4, .aload_n 0, 1), (5, .getfield 65, 3), (8, .iload_n 1, 1), (9, .aload_n 0, 1), (10, .getfield 160, 3), (13, .ldc2_w 184, 3), (16, .lcmp, 1), (17, .ifCond .ne 7, 3), (20, .iconst 0, 1), (21, .goto 49, 3), (24, .aload_n 0, 1), (25, .getfield 160, 3)] := by decide +kernel
theorem dX10_isLine_0 : decode cX10_isLine 0 = .ok (.aload_n 0, 1) := dz_at dqX10_isLine_p120 0 rfl
theorem dX10_isLine_1 : decode cX10_isLine 1 = .ok (.invokevirtual 177, 3) := dz_at dqX10_isLine_p120 1 rfl
theorem dX10_isLine_4 : decode cX10_isLine 4 = .ok (.aload_n 0, 1) := dz_at dqX10_isLine_p120 2 rfl
theorem dX10_isLine_5 : decode cX10_isLine 5 = .ok (.getfield 65, 3) := dz_at dqX10_isLine_p120 3 rfl
theorem dX10_isLine_8 : decode cX10_isLine 8 = .ok (.iload_n 1, 1) := dz_at dqX10_isLine_p120 4 rfl
theorem dX10_isLine_9 : decode cX10_isLine 9 = .ok (.aload_n 0, 1) := dz_at dqX10_isLine_p120 5 rfl
theorem dX10_isLine_10 : decode cX10_isLine 10 = .ok (.getfield 160, 3) := dz_at dqX10_isLine_p120 6 rfl
theorem dX10_isLine_13 : decode cX10_isLine 13 = .ok (.ldc2_w 184, 3) := dz_at dqX10_isLine_p120 7 rfl
theorem dX10_isLine_16 : decode cX10_isLine 16 = .ok (.lcmp, 1) := dz_at dqX10_isLine_p120 8 rfl
theorem dX10_isLine_17 : decode cX10_isLine 17 = .ok (.ifCond .ne 7, 3) := dz_at dqX10_isLine_p120 9 rfl
theorem dX10_isLine_20 : decode cX10_isLine 20 = .ok (.iconst 0, 1) := dz_at dqX10_isLine_p120 10 rfl
theorem dX10_isLine_21 : decode cX10_isLine 21 = .ok (.goto 49, 3) := dz_at dqX10_isLine_p120 11 rfl
theorem dX10_isLine_24 : decode cX10_isLine 24 = .ok (.aload_n 0, 1) := dz_at dqX10_isLine_p120 12 rfl
theorem dX10_isLine_25 : decode cX10_isLine 25 = .ok (.getfield 160, 3) := dz_at dqX10_isLine_p120 13 rfl
set_option maxRecDepth 20000 in
theorem dqX10_isLine_p121 : dz_rn 28 (cX10_isLine.data.toList.drop 28) [(3, 4), (0, 40), (4, 8), (0, 9), (4, 0), (0, 4), (3, 0), (3, 4), (0, 40), (4, 8), (0, 14), (4, 0), (0, 4), (3, 0)] = some [(28, .ldc2_w 186, 3), (31, .lcmp, 1), (32, .ifCond .ne 7, 3), (35, .iconst 1, 1), (36, .goto 34, 3), (39, .aload_n 0, 1), (40, .getfield 160, 3), (43, .ldc2_w 188, 3), (46, .lcmp, 1), (47, .ifCond .ne 7, 3), (50, .iconst 2, 1), (51, .goto 19, 3), (54, .aload_n 0, 1), (55, .getfield 160, 3)] := by decide +kernel
theorem dX10_isLine_28 : decode cX10_isLine 28 = .ok (.ldc2_w 186, 3) := dz_at dqX10_isLine_p121 0 rfl
theorem dX10_isLine_31 : decode cX10_isLine 31 = .ok (.lcmp, 1) := dz_at dqX10_isLine_p121 1 rfl
theorem dX10_isLine_32 : decode cX10_isLine 32 = .ok (.ifCond .ne 7, 3) := dz_at dqX10_isLine_p121 2 rfl
theorem dX10_isLine_35 : decode cX10_isLine 35 = .ok (.iconst 1, 1) := dz_at dqX10_isLine_p121 3 rfl
theorem dX10_isLine_36 : decode cX10_isLine 36 = .ok (.goto 34, 3) := dz_at dqX10_isLine_p121 4 rfl
theorem dX10_isLine_39 : decode cX10_isLine 39 = .ok (.aload_n 0, 1) := dz_at dqX10_isLine_p121 5 rfl
theorem dX10_isLine_40 : decode cX10_isLine 40 = .ok (.getfield 160, 3) := dz_at dqX10_isLine_p121 6 rfl
theorem dX10_isLine_43 : decode cX10_isLine 43 = .ok (.ldc2_w 188, 3) := dz_at dqX10_isLine_p121 7 rfl
theorem dX10_isLine_46 : decode cX10_isLine 46 = .ok (.lcmp, 1) := dz_at dqX10_isLine_p121 8 rfl
theorem dX10_isLine_47 : decode cX10_isLine 47 = .ok (.ifCond .ne 7, 3) := dz_at dqX10_isLine_p121 9 rfl
theorem dX10_isLine_50 : decode cX10_isLine 50 = .ok (.iconst 2, 1) := dz_at dqX10_isLine_p121 10 rfl
theorem dX10_isLine_51 : decode cX10_isLine 51 = .ok (.goto 19, 3) := dz_at dqX10_isLine_p121 11 rfl
theorem dX10_isLine_54 : decode cX10_isLine 54 = .ok (.aload_n 0, 1) := dz_at dqX10_isLine_p121 12 rfl
theorem dX10_isLine_55 : decode cX10_isLine 55 = .ok (.getfield 160, 3) := dz_at dqX10_isLine_p121 13 rfl
set_option maxRecDepth 20000 in
theorem dqX10_isLine_p122 : dz_rn 58 (cX10_isLine.data.toList.drop 58) [(3, 4), (0, 40), (4, 8), (0, 15), (4, 0), (0, 13), (0, 22), (0, 4), (3, 0), (0, 1), (0, 9), (0, 11), (0, 8), (0, 22)] = some [(58, .ldc2_w 190, 3), (61, .lcmp, 1), (62, .ifCond .ne 7, 3), (65, .iconst 3, 1), (66, .goto 4, 3), (69, .iconst (-1), 1), (70, .iastore, 1), (71, .aload_n 0, 1), (72, .getfield 65, 3), (75, .iload_n 1, 1), (76, .iconst 1, 1), (77, .iadd, 1), (78, .iconst 0, 1), (79, .iastore, 1)] := by decide +kernel
theorem dX10_isLine_58 : decode cX10_isLine 58 = .ok (.ldc2_w 190, 3) := dz_at dqX10_isLine_p122 0 rfl
theorem dX10_isLine_61 : decode cX10_isLine 61 = .ok (.lcmp, 1) := dz_at dqX10_isLine_p122 1 rfl
theorem dX10_isLine_62 : decode cX10_isLine 62 = .ok (.ifCond .ne 7, 3) := dz_at dqX10_isLine_p122 2 rfl
theorem dX10_isLine_65 : decode cX10_isLine 65 = .ok (.iconst 3, 1) := dz_at dqX10_isLine_p122 3 rfl
theorem dX10_isLine_66 : decode cX10_isLine 66 = .ok (.goto 4, 3) := dz_at dqX10_isLine_p122 4 rfl
theorem dX10_isLine_69 : decode cX10_isLine 69 = .ok (.iconst (-1), 1) := dz_at dqX10_isLine_p122 5 rfl
theorem dX10_isLine_70 : decode cX10_isLine 70 = .ok (.iastore, 1) := dz_at dqX10_isLine_p122 6 rfl
theorem dX10_isLine_71 : decode cX10_isLine 71 = .ok (.aload_n 0, 1) := dz_at dqX10_isLine_p122 7 rfl
theorem dX10_isLine_72 : decode cX10_isLine 72 = .ok (.getfield 65, 3) := dz_at dqX10_isLine_p122 8 rfl
theorem dX10_isLine_75 : decode cX10_isLine 75 = .ok (.iload_n 1, 1) := dz_at dqX10_isLine_p122 9 rfl
theorem dX10_isLine_76 : decode cX10_isLine 76 = .ok (.iconst 1, 1) := dz_at dqX10_isLine_p122 10 rfl
theorem dX10_isLine_77 : decode cX10_isLine 77 = .ok (.iadd, 1) := dz_at dqX10_isLine_p122 11 rfl
theorem dX10_isLine_78 : decode cX10_isLine 78 = .ok (.iconst 0, 1) := dz_at dqX10_isLine_p122 12 rfl
theorem dX10_isLine_79 : decode cX10_isLine 79 = .ok (.iastore, 1) := dz_at dqX10_isLine_p122 13 rfl
set_option maxRecDepth 20000 in
theorem dqX10_isLine_p123 : dz_rn 80 (cX10_isLine.data.toList.drop 80) [(0, 4), (3, 0), (0, 1), (0, 10)] = some [(80, .aload_n 0, 1), (81, .getfield 65, 3), (84, .iload_n 1, 1), (85, .iaload, 1)] := by decide +kernel
theorem dX10_isLine_80 : decode cX10_isLine 80 = .ok (.aload_n 0, 1) := dz_at dqX10_isLine_p123 0 rfl
theorem dX10_isLine_81 : decode cX10_isLine 81 = .ok (.getfield 65, 3) := dz_at dqX10_isLine_p123 1 rfl
theorem dX10_isLine_84 : decode cX10_isLine 84 = .ok (.iload_n 1, 1) := dz_at dqX10_isLine_p123 2 rfl
theorem dX10_isLine_85 : decode cX10_isLine 85 = .ok (.iaload, 1) := dz_at dqX10_isLine_p123 3 rfl
theorem dX10_isLine_86 : decode cX10_isLine 86 = .ok (.tableswitch 126 0 3 #[30, 62, 73, 84], 30) := by decide +kernel
set_option maxRecDepth 20000 in
theorem dqX10_isLine_p124 : dz_rn 116 (cX10_isLine.data.toList.drop 116) [(0, 4), (0, 1), (0, 9), (0, 11), (0, 8), (2, 0), (3, 1), (4, 7), (0, 4), (0, 1), (0, 14), (0, 11), (0, 8), (2, 0)] = some [(116, .aload_n 0, 1), (117, .iload_n 1, 1), (118, .iconst 1, 1), (119, .iadd, 1), (120, .iconst 0, 1), (121, .bipush 7, 2), (123, .invokevirtual 192, 3), (126, .ifCond .eq 20, 3), (129, .aload_n 0, 1), (130, .iload_n 1, 1), (131, .iconst 2, 1), (132, .iadd, 1), (133, .iconst 0, 1), (134, .bipush 8, 2)] := by decide +kernel
theorem dX10_isLine_116 : decode cX10_isLine 116 = .ok (.aload_n 0, 1) := dz_at dqX10_isLine_p124 0 rfl
theorem dX10_isLine_117 : decode cX10_isLine 117 = .ok (.iload_n 1, 1) := dz_at dqX10_isLine_p124 1 rfl
theorem dX10_isLine_118 : decode cX10_isLine 118 = .ok (.iconst 1, 1) := dz_at dqX10_isLine_p124 2 rfl
theorem dX10_isLine_119 : decode cX10_isLine 119 = .ok (.iadd, 1) := dz_at dqX10_isLine_p124 3 rfl
theorem dX10_isLine_120 : decode cX10_isLine 120 = .ok (.iconst 0, 1) := dz_at dqX10_isLine_p124 4 rfl
theorem dX10_isLine_121 : decode cX10_isLine 121 = .ok (.bipush 7, 2) := dz_at dqX10_isLine_p124 5 rfl
theorem dX10_isLine_123 : decode cX10_isLine 123 = .ok (.invokevirtual 192, 3) := dz_at dqX10_isLine_p124 6 rfl
theorem dX10_isLine_126 : decode cX10_isLine 126 = .ok (.ifCond .eq 20, 3) := dz_at dqX10_isLine_p124 7 rfl
theorem dX10_isLine_129 : decode cX10_isLine 129 = .ok (.aload_n 0, 1) := dz_at dqX10_isLine_p124 8 rfl
theorem dX10_isLine_130 : decode cX10_isLine 130 = .ok (.iload_n 1, 1) := dz_at dqX10_isLine_p124 9 rfl
theorem dX10_isLine_131 : decode cX10_isLine 131 = .ok (.iconst 2, 1) := dz_at dqX10_isLine_p124 10 rfl
theorem dX10_isLine_132 : decode cX10_isLine 132 = .ok (.iadd, 1) := dz_at dqX10_isLine_p124 11 rfl
theorem dX10_isLine_133 : decode cX10_isLine 133 = .ok (.iconst 0, 1) := dz_at dqX10_isLine_p124 12 rfl
theorem dX10_isLine_134 : decode cX10_isLine 134 = .ok (.bipush 8, 2) := dz_at dqX10_isLine_p124 13 rfl
set_option maxRecDepth 20000 in
theorem dqX10_isLine_p125 : dz_rn 136 (cX10_isLine.data.toList.drop 136) [(3, 1), (4, 7), (0, 9), (4, 0), (0, 8), (0, 12), (0, 4), (0, 1), (0, 14), (0, 11), (0, 9), (2, 0), (3, 1), (0, 12)] = some [(136, .invokevirtual 192, 3), (139, .ifCond .eq 7, 3), (142, .iconst 1, 1), (143, .goto 4, 3), (146, .iconst 0, 1), (147, .ireturn, 1), (148, .aload_n 0, 1), (149, .iload_n 1, 1), (150, .iconst 2, 1), (151, .iadd, 1), (152, .iconst 1, 1), (153, .bipush 99, 2), (155, .invokevirtual 192, 3), (158, .ireturn, 1)] := by decide +kernel
theorem dX10_isLine_136 : decode cX10_isLine 136 = .ok (.invokevirtual 192, 3) := dz_at dqX10_isLine_p125 0 rfl
theorem dX10_isLine_139 : decode cX10_isLine 139 = .ok (.ifCond .eq 7, 3) := dz_at dqX10_isLine_p125 1 rfl
theorem dX10_isLine_142 : decode cX10_isLine 142 = .ok (.iconst 1, 1) := dz_at dqX10_isLine_p125 2 rfl
theorem dX10_isLine_143 : decode cX10_isLine 143 = .ok (.goto 4, 3) := dz_at dqX10_isLine_p125 3 rfl
theorem dX10_isLine_146 : decode cX10_isLine 146 = .ok (.iconst 0, 1) := dz_at dqX10_isLine_p125 4 rfl
theorem dX10_isLine_147 : decode cX10_isLine 147 = .ok (.ireturn, 1) := dz_at dqX10_isLine_p125 5 rfl
theorem dX10_isLine_148 : decode cX10_isLine 148 = .ok (.aload_n 0, 1) := dz_at dqX10_isLine_p125 6 rfl
theorem dX10_isLine_149 : decode cX10_isLine 149 = .ok (.iload_n 1, 1) := dz_at dqX10_isLine_p125 7 rfl
theorem dX10_isLine_150 : decode cX10_isLine 150 = .ok (.iconst 2, 1) := dz_at dqX10_isLine_p125 8 rfl
theorem dX10_isLine_151 : decode cX10_isLine 151 = .ok (.iadd, 1) := dz_at dqX10_isLine_p125 9 rfl
theorem dX10_isLine_152 : decode cX10_isLine 152 = .ok (.iconst 1, 1) := dz_at dqX10_isLine_p125 10 rfl
theorem dX10_isLine_153 : decode cX10_isLine 153 = .ok (.bipush 99, 2) := dz_at dqX10_isLine_p125 11 rfl
theorem dX10_isLine_155 : decode cX10_isLine 155 = .ok (.invokevirtual 192, 3) := dz_at dqX10_isLine_p125 12 rfl
theorem dX10_isLine_158 : decode cX10_isLine 158 = .ok (.ireturn, 1) := dz_at dqX10_isLine_p125 13 rfl
set_option maxRecDepth 20000 in
theorem dqX10_isLine_p126 : dz_rn 159 (cX10_isLine.data.toList.drop 159) [(0, 4), (0, 1), (0, 14), (0, 11), (0, 8), (2, 0), (3, 1), (0, 12), (0, 4), (0, 1), (0, 9), (0, 11), (0, 8), (2, 0)] = some [(159, .aload_n 0, 1), (160, .iload_n 1, 1), (161, .iconst 2, 1), (162, .iadd, 1), (163, .iconst 0, 1), (164, .bipush 8, 2), (166, .invokevirtual 192, 3), (169, .ireturn, 1), (170, .aload_n 0, 1), (171, .iload_n 1, 1), (172, .iconst 1, 1), (173, .iadd, 1), (174, .iconst 0, 1), (175, .bipush 7, 2)] := by decide +kernel
theorem dX10_isLine_159 : decode cX10_isLine 159 = .ok (.aload_n 0, 1) := dz_at dqX10_isLine_p126 0 rfl
theorem dX10_isLine_160 : decode cX10_isLine 160 = .ok (.iload_n 1, 1) := dz_at dqX10_isLine_p126 1 rfl
theorem dX10_isLine_161 : decode cX10_isLine 161 = .ok (.iconst 2, 1) := dz_at dqX10_isLine_p126 2 rfl
theorem dX10_isLine_162 : decode cX10_isLine 162 = .ok (.iadd, 1) := dz_at dqX10_isLine_p126 3 rfl
theorem dX10_isLine_163 : decode cX10_isLine 163 = .ok (.iconst 0, 1) := dz_at dqX10_isLine_p126 4 rfl
theorem dX10_isLine_164 : decode cX10_isLine 164 = .ok (.bipush 8, 2) := dz_at dqX10_isLine_p126 5 rfl
theorem dX10_isLine_166 : decode cX10_isLine 166 = .ok (.invokevirtual 192, 3) := dz_at dqX10_isLine_p126 6 rfl
theorem dX10_isLine_169 : decode cX10_isLine 169 = .ok (.ireturn, 1) := dz_at dqX10_isLine_p126 7 rfl
theorem dX10_isLine_170 : decode cX10_isLine 170 = .ok (.aload_n 0, 1) := dz_at dqX10_isLine_p126 8 rfl
theorem dX10_isLine_171 : decode cX10_isLine 171 = .ok (.iload_n 1, 1) := dz_at dqX10_isLine_p126 9 rfl
theorem dX10_isLine_172 : decode cX10_isLine 172 = .ok (.iconst 1, 1) := dz_at dqX10_isLine_p126 10 rfl
theorem dX10_isLine_173 : decode cX10_isLine 173 = .ok (.iadd, 1) := dz_at dqX10_isLine_p126 11 rfl
theorem dX10_isLine_174 : decode cX10_isLine 174 = .ok (.iconst 0, 1) := dz_at dqX10_isLine_p126 12 rfl
theorem dX10_isLine_175 : decode cX10_isLine 175 = .ok (.bipush 7, 2) := dz_at dqX10_isLine_p126 13 rfl
set_option maxRecDepth 20000 in
theorem dqX10_isLine_p127 : dz_rn 177 (cX10_isLine.data.toList.drop 177) [(3, 1), (4, 7), (0, 4), (3, 4), (3, 1), (4, 7), (0, 4), (0, 1), (0, 14), (0, 11), (0, 9), (2, 0), (3, 1), (4, 7)] = some [(177, .invokevirtual 192, 3), (180, .ifCond .eq 30, 3), (183, .aload_n 0, 1), (184, .ldc2_w 195, 3), (187, .invokevirtual 197, 3), (190, .ifCond .eq 20, 3), (193, .aload_n 0, 1), (194, .iload_n 1, 1), (195, .iconst 2, 1), (196, .iadd, 1), (197, .iconst 1, 1), (198, .bipush 99, 2), (200, .invokevirtual 192, 3), (203, .ifCond .eq 7, 3)] := by decide +kernel
theorem dX10_isLine_177 : decode cX10_isLine 177 = .ok (.invokevirtual 192, 3) := dz_at dqX10_isLine_p127 0 rfl
theorem dX10_isLine_180 : decode cX10_isLine 180 = .ok (.ifCond .eq 30, 3) := dz_at dqX10_isLine_p127 1 rfl
theorem dX10_isLine_183 : decode cX10_isLine 183 = .ok (.aload_n 0, 1) := dz_at dqX10_isLine_p127 2 rfl
theorem dX10_isLine_184 : decode cX10_isLine 184 = .ok (.ldc2_w 195, 3) := dz_at dqX10_isLine_p127 3 rfl
theorem dX10_isLine_187 : decode cX10_isLine 187 = .ok (.invokevirtual 197, 3) := dz_at dqX10_isLine_p127 4 rfl
theorem dX10_isLine_190 : decode cX10_isLine 190 = .ok (.ifCond .eq 20, 3) := dz_at dqX10_isLine_p127 5 rfl
theorem dX10_isLine_193 : decode cX10_isLine 193 = .ok (.aload_n 0, 1) := dz_at dqX10_isLine_p127 6 rfl
theorem dX10_isLine_194 : decode cX10_isLine 194 = .ok (.iload_n 1, 1) := dz_at dqX10_isLine_p127 7 rfl
theorem dX10_isLine_195 : decode cX10_isLine 195 = .ok (.iconst 2, 1) := dz_at dqX10_isLine_p127 8 rfl
theorem dX10_isLine_196 : decode cX10_isLine 196 = .ok (.iadd, 1) := dz_at dqX10_isLine_p127 9 rfl
theorem dX10_isLine_197 : decode cX10_isLine 197 = .ok (.iconst 1, 1) := dz_at dqX10_isLine_p127 10 rfl
theorem dX10_isLine_198 : decode cX10_isLine 198 = .ok (.bipush 99, 2) := dz_at dqX10_isLine_p127 11 rfl
theorem dX10_isLine_200 : decode cX10_isLine 200 = .ok (.invokevirtual 192, 3) := dz_at dqX10_isLine_p127 12 rfl
theorem dX10_isLine_203 : decode cX10_isLine 203 = .ok (.ifCond .eq 7, 3) := dz_at dqX10_isLine_p127 13 rfl
set_option maxRecDepth 20000 in
theorem dqX10_isLine_p128 : dz_rn 206 (cX10_isLine.data.toList.drop 206) [(0, 9), (4, 0), (0, 8), (0, 12), (0, 4), (3, 1), (0, 12)] = some [(206, .iconst 1, 1), (207, .goto 4, 3), (210, .iconst 0, 1), (211, .ireturn, 1), (212, .aload_n 0, 1), (213, .invokevirtual 180, 3), (216, .ireturn, 1)] := by decide +kernel
theorem dX10_isLine_206 : decode cX10_isLine 206 = .ok (.iconst 1, 1) := dz_at dqX10_isLine_p128 0 rfl
theorem dX10_isLine_207 : decode cX10_isLine 207 = .ok (.goto 4, 3) := dz_at dqX10_isLine_p128 1 rfl
theorem dX10_isLine_210 : decode cX10_isLine 210 = .ok (.iconst 0, 1) := dz_at dqX10_isLine_p128 2 rfl
theorem dX10_isLine_211 : decode cX10_isLine 211 = .ok (.ireturn, 1) := dz_at dqX10_isLine_p128 3 rfl
theorem dX10_isLine_212 : decode cX10_isLine 212 = .ok (.aload_n 0, 1) := dz_at dqX10_isLine_p128 4 rfl
theorem dX10_isLine_213 : decode cX10_isLine 213 = .ok (.invokevirtual 180, 3) := dz_at dqX10_isLine_p128 5 rfl
theorem dX10_isLine_216 : decode cX10_isLine 216 = .ok (.ireturn, 1) := dz_at dqX10_isLine_p128 6 rfl
set_option maxRecDepth 20000 in
theorem ggX10_isRead_X10_isLine : GoodIn wsX10_isRead wsX10_isLine := goodIn_r _ [10, 11, 3, 12, 13, 14, 15, 16, 17, 18, 19, 9, 20, 1, 21, 22, 23, 24, 25, 5, 26, 27, 28, 29, 4, 30, 31, 32, 33, 34, 35, 36, 37, 38, 39, 40, 41, 42, 43, 44, 45, 46, 47, 48, 49, 50, 51, 52, 53, 54, 55, 56, 57, 58, 59, 60, 61, 62, 63, 64, 65, 66, 67, 68, 69, 70, 71, 72, 73, 74, 75, 76, 77, 78, 79, 80, 81, 82, 83, 84] rfl (by decide +kernel)
set_option maxRecDepth 20000 in
theorem gX10_isRead_X10_isLine : GoodIn wsX10_isRead (wsV RX10 204 RX10 yX10_isLine wsX10_isLine) := goodIn_app (goodIn_of _ (by decide +kernel)) ggX10_isRead_X10_isLine
set_option maxRecDepth 20000 in
theorem ggX10_isRead_X10_nextToken : GoodIn wsX10_isRead wsX10_nextToken := goodIn_r _ [20, 1, 21, 22, 23, 24, 25, 5, 3, 26, 27, 28, 29, 4, 30, 31, 9, 32, 46, 47, 48, 49, 50, 51, 52, 53, 54, 55, 56, 57, 58, 59, 60, 61, 62, 63, 64, 65, 66, 67, 68, 69, 70, 71, 72, 73, 74, 75, 76, 77, 78, 79, 80, 81, 82, 83, 84] rfl (by decide +kernel)
set_option maxRecDepth 20000 in
theorem gX10_isRead_X10_nextToken : GoodIn wsX10_isRead (wsV RX10 177 RX10 yX10_nextToken wsX10_nextToken) := goodIn_app (goodIn_of _ (by decide +kernel)) ggX10_isRead_X10_nextToken
set_option maxRecDepth 20000 in
theorem ggX10_isRead_X10_fails : GoodIn wsX10_isRead wsX10_fails := goodIn_r _ [40, 23, 41, 46, 47, 48, 49, 50, 51, 52, 53, 54, 55, 56, 57, 58, 59, 60, 61, 62, 63, 64, 65, 66, 67, 68, 69, 70, 71, 72, 73, 74, 75, 76, 77, 78, 79, 80, 81, 82, 83, 84] rfl (by decide +kernel)
set_option maxRecDepth 20000 in
theorem gX10_isRead_X10_fails : GoodIn wsX10_isRead (wsV RX10 180 RX10 yX10_fails wsX10_fails) := goodIn_app (goodIn_of _ (by decide +kernel)) ggX10_isRead_X10_fails
set_option maxRecDepth 20000 in
theorem dqX10_isRead_p120 : dz_rn 0 (cX10_isRead.data.toList.drop 0) [(0, 4), (0, 8), (3, 3), (0, 4), (0, 8), (3, 3), (0, 9), (0, 19), (0, 1), (4, 7), (0, 4), (0, 15), (0, 4), (3, 0)] = some [(0, .aload_n 0, 1), (1, .iconst 0, 1), (2, .putfield 146, 3), (5, .aload_n 0, 1), (6, .iconst 0, 1), (7, .putfield 201, 3), (10, .iconst 1, 1), (11, .istore_n 1, 1), (12, .iload_n 1, 1), (13, .ifCond .eq 61, 3), (16, .aload_n 0, 1), (17, .iconst 3, 1), (18, .aload_n 0, 1), (19, .getfield 201, 3)] := by decide +kernel
theorem dX10_isRead_0 : decode cX10_isRead 0 = .ok (.aload_n 0, 1) := dz_at dqX10_isRead_p120 0 rfl
theorem dX10_isRead_1 : decode cX10_isRead 1 = .ok (.iconst 0, 1) := dz_at dqX10_isRead_p120 1 rfl
theorem dX10_isRead_2 : decode cX10_isRead 2 = .ok (.putfield 146, 3) := dz_at dqX10_isRead_p120 2 rfl
theorem dX10_isRead_5 : decode cX10_isRead 5 = .ok (.aload_n 0, 1) := dz_at dqX10_isRead_p120 3 rfl
theorem dX10_isRead_6 : decode cX10_isRead 6 = .ok (.iconst 0, 1) := dz_at dqX10_isRead_p120 4 rfl
theorem dX10_isRead_7 : decode cX10_isRead 7 = .ok (.putfield 201, 3) := dz_at dqX10_isRead_p120 5 rfl
theorem dX10_isRead_10 : decode cX10_isRead 10 = .ok (.iconst 1, 1) := dz_at dqX10_isRead_p120 6 rfl
theorem dX10_isRead_11 : decode cX10_isRead 11 = .ok (.istore_n 1, 1) := dz_at dqX10_isRead_p120 7 rfl
theorem dX10_isRead_12 : decode cX10_isRead 12 = .ok (.iload_n 1, 1) := dz_at dqX10_isRead_p120 8 rfl
theorem dX10_isRead_13 : decode cX10_isRead 13 = .ok (.ifCond .eq 61, 3) := dz_at dqX10_isRead_p120 9 rfl
theorem dX10_isRead_16 : decode cX10_isRead 16 = .ok (.aload_n 0, 1) := dz_at dqX10_isRead_p120 10 rfl
theorem dX10_isRead_17 : decode cX10_isRead 17 = .ok (.iconst 3, 1) := dz_at dqX10_isRead_p120 11 rfl
theorem dX10_isRead_18 : decode cX10_isRead 18 = .ok (.aload_n 0, 1) := dz_at dqX10_isRead_p120 12 rfl
theorem dX10_isRead_19 : decode cX10_isRead 19 = .ok (.getfield 201, 3) := dz_at dqX10_isRead_p120 13 rfl
set_option maxRecDepth 20000 in
theorem dqX10_isRead_p121 : dz_rn 22 (cX10_isRead.data.toList.drop 22) [(0, 23), (3, 1), (4, 8), (0, 8), (0, 12), (0, 4), (0, 28), (3, 0), (0, 9), (0, 11), (3, 3), (0, 4), (3, 1), (0, 4)] = some [(22, .imul, 1), (23, .invokevirtual 204, 3), (26, .ifCond .ne 5, 3), (29, .iconst 0, 1), (30, .ireturn, 1), (31, .aload_n 0, 1), (32, .dup, 1), (33, .getfield 201, 3), (36, .iconst 1, 1), (37, .iadd, 1), (38, .putfield 201, 3), (41, .aload_n 0, 1), (42, .invokevirtual 177, 3), (45, .aload_n 0, 1)] := by decide +kernel
theorem dX10_isRead_22 : decode cX10_isRead 22 = .ok (.imul, 1) := dz_at dqX10_isRead_p121 0 rfl
theorem dX10_isRead_23 : decode cX10_isRead 23 = .ok (.invokevirtual 204, 3) := dz_at dqX10_isRead_p121 1 rfl
theorem dX10_isRead_26 : decode cX10_isRead 26 = .ok (.ifCond .ne 5, 3) := dz_at dqX10_isRead_p121 2 rfl
theorem dX10_isRead_29 : decode cX10_isRead 29 = .ok (.iconst 0, 1) := dz_at dqX10_isRead_p121 3 rfl
theorem dX10_isRead_30 : decode cX10_isRead 30 = .ok (.ireturn, 1) := dz_at dqX10_isRead_p121 4 rfl
theorem dX10_isRead_31 : decode cX10_isRead 31 = .ok (.aload_n 0, 1) := dz_at dqX10_isRead_p121 5 rfl
theorem dX10_isRead_32 : decode cX10_isRead 32 = .ok (.dup, 1) := dz_at dqX10_isRead_p121 6 rfl
theorem dX10_isRead_33 : decode cX10_isRead 33 = .ok (.getfield 201, 3) := dz_at dqX10_isRead_p121 7 rfl
theorem dX10_isRead_36 : decode cX10_isRead 36 = .ok (.iconst 1, 1) := dz_at dqX10_isRead_p121 8 rfl
theorem dX10_isRead_37 : decode cX10_isRead 37 = .ok (.iadd, 1) := dz_at dqX10_isRead_p121 9 rfl
theorem dX10_isRead_38 : decode cX10_isRead 38 = .ok (.putfield 201, 3) := dz_at dqX10_isRead_p121 10 rfl
theorem dX10_isRead_41 : decode cX10_isRead 41 = .ok (.aload_n 0, 1) := dz_at dqX10_isRead_p121 11 rfl
theorem dX10_isRead_42 : decode cX10_isRead 42 = .ok (.invokevirtual 177, 3) := dz_at dqX10_isRead_p121 12 rfl
theorem dX10_isRead_45 : decode cX10_isRead 45 = .ok (.aload_n 0, 1) := dz_at dqX10_isRead_p121 13 rfl
set_option maxRecDepth 20000 in
theorem dqX10_isRead_p122 : dz_rn 46 (cX10_isRead.data.toList.drop 46) [(3, 0), (3, 4), (0, 40), (4, 8), (0, 4), (3, 0), (2, 0), (4, 4), (0, 9), (4, 0), (0, 8), (0, 19), (4, 0), (0, 4)] = some [(46, .getfield 160, 3), (49, .ldc2_w 172, 3), (52, .lcmp, 1), (53, .ifCond .ne 16, 3), (56, .aload_n 0, 1), (57, .getfield 201, 3), (60, .bipush 10, 2), (62, .if_icmp .ge 7, 3), (65, .iconst 1, 1), (66, .goto 4, 3), (69, .iconst 0, 1), (70, .istore_n 1, 1), (71, .goto (-59), 3), (74, .aload_n 0, 1)] := by decide +kernel
theorem dX10_isRead_46 : decode cX10_isRead 46 = .ok (.getfield 160, 3) := dz_at dqX10_isRead_p122 0 rfl
theorem dX10_isRead_49 : decode cX10_isRead 49 = .ok (.ldc2_w 172, 3) := dz_at dqX10_isRead_p122 1 rfl
theorem dX10_isRead_52 : decode cX10_isRead 52 = .ok (.lcmp, 1) := dz_at dqX10_isRead_p122 2 rfl
theorem dX10_isRead_53 : decode cX10_isRead 53 = .ok (.ifCond .ne 16, 3) := dz_at dqX10_isRead_p122 3 rfl
theorem dX10_isRead_56 : decode cX10_isRead 56 = .ok (.aload_n 0, 1) := dz_at dqX10_isRead_p122 4 rfl
theorem dX10_isRead_57 : decode cX10_isRead 57 = .ok (.getfield 201, 3) := dz_at dqX10_isRead_p122 5 rfl
theorem dX10_isRead_60 : decode cX10_isRead 60 = .ok (.bipush 10, 2) := dz_at dqX10_isRead_p122 6 rfl
theorem dX10_isRead_62 : decode cX10_isRead 62 = .ok (.if_icmp .ge 7, 3) := dz_at dqX10_isRead_p122 7 rfl
theorem dX10_isRead_65 : decode cX10_isRead 65 = .ok (.iconst 1, 1) := dz_at dqX10_isRead_p122 8 rfl
theorem dX10_isRead_66 : decode cX10_isRead 66 = .ok (.goto 4, 3) := dz_at dqX10_isRead_p122 9 rfl
theorem dX10_isRead_69 : decode cX10_isRead 69 = .ok (.iconst 0, 1) := dz_at dqX10_isRead_p122 10 rfl
theorem dX10_isRead_70 : decode cX10_isRead 70 = .ok (.istore_n 1, 1) := dz_at dqX10_isRead_p122 11 rfl
theorem dX10_isRead_71 : decode cX10_isRead 71 = .ok (.goto (-59), 3) := dz_at dqX10_isRead_p122 12 rfl
theorem dX10_isRead_74 : decode cX10_isRead 74 = .ok (.aload_n 0, 1) := dz_at dqX10_isRead_p122 13 rfl
set_option maxRecDepth 20000 in
theorem dqX10_isRead_p123 : dz_rn 75 (cX10_isRead.data.toList.drop 75) [(3, 0), (3, 4), (0, 40), (4, 7), (0, 4), (3, 1), (4, 7), (0, 9), (4, 0), (0, 8), (0, 12)] = some [(75, .getfield 160, 3), (78, .ldc2_w 158, 3), (81, .lcmp, 1), (82, .ifCond .eq 10, 3), (85, .aload_n 0, 1), (86, .invokevirtual 180, 3), (89, .ifCond .eq 7, 3), (92, .iconst 1, 1), (93, .goto 4, 3), (96, .iconst 0, 1), (97, .ireturn, 1)] := by decide +kernel
theorem dX10_isRead_75 : decode cX10_isRead 75 = .ok (.getfield 160, 3) := dz_at dqX10_isRead_p123 0 rfl
theorem dX10_isRead_78 : decode cX10_isRead 78 = .ok (.ldc2_w 158, 3) := dz_at dqX10_isRead_p123 1 rfl
theorem dX10_isRead_81 : decode cX10_isRead 81 = .ok (.lcmp, 1) := dz_at dqX10_isRead_p123 2 rfl
theorem dX10_isRead_82 : decode cX10_isRead 82 = .ok (.ifCond .eq 10, 3) := dz_at dqX10_isRead_p123 3 rfl
theorem dX10_isRead_85 : decode cX10_isRead 85 = .ok (.aload_n 0, 1) := dz_at dqX10_isRead_p123 4 rfl
theorem dX10_isRead_86 : decode cX10_isRead 86 = .ok (.invokevirtual 180, 3) := dz_at dqX10_isRead_p123 5 rfl
theorem dX10_isRead_89 : decode cX10_isRead 89 = .ok (.ifCond .eq 7, 3) := dz_at dqX10_isRead_p123 6 rfl
theorem dX10_isRead_92 : decode cX10_isRead 92 = .ok (.iconst 1, 1) := dz_at dqX10_isRead_p123 7 rfl
theorem dX10_isRead_93 : decode cX10_isRead 93 = .ok (.goto 4, 3) := dz_at dqX10_isRead_p123 8 rfl
theorem dX10_isRead_96 : decode cX10_isRead 96 = .ok (.iconst 0, 1) := dz_at dqX10_isRead_p123 9 rfl
theorem dX10_isRead_97 : decode cX10_isRead 97 = .ok (.ireturn, 1) := dz_at dqX10_isRead_p123 10 rfl
set_option maxRecDepth 20000 in
theorem ggX10_fault_X10_isRead : GoodIn wsX10_fault wsX10_isRead := goodIn_r _ [6, 7, 8, 9, 10, 11, 12, 13, 14, 5, 15, 16, 17, 18, 19, 20, 21, 22, 23, 24, 25, 26, 27, 28, 29, 30, 31, 32, 33, 34, 35, 36, 37, 38, 39, 40, 41, 42, 43, 44, 45, 1, 46, 47, 48, 49, 50, 51, 52, 53, 54, 55, 56, 57, 58, 59, 60, 61, 62, 63, 64, 65, 66, 67, 68, 69, 70, 71, 72, 73, 74, 75, 76, 77, 78, 79, 80, 81, 82, 83, 84, 85, 86, 87, 88] rfl (by decide +kernel)
set_option maxRecDepth 20000 in
theorem gX10_fault_X10_isRead : GoodIn wsX10_fault (wsV RX10 207 RX10 yX10_isRead wsX10_isRead) := goodIn_app (goodIn_of _ (by decide +kernel)) ggX10_fault_X10_isRead
set_option maxRecDepth 20000 in
theorem dqX10_fault_p120 : dz_rn 0 (cX10_fault.data.toList.drop 0) [(0, 4), (3, 1), (4, 7), (0, 13), (4, 0), (0, 4), (3, 0), (0, 12)] = some [(0, .aload_n 0, 1), (1, .invokevirtual 207, 3), (4, .ifCond .eq 7, 3), (7, .iconst (-1), 1), (8, .goto 7, 3), (11, .aload_n 0, 1), (12, .getfield 174, 3), (15, .ireturn, 1)] := by decide +kernel
theorem dX10_fault_0 : decode cX10_fault 0 = .ok (.aload_n 0, 1) := dz_at dqX10_fault_p120 0 rfl
theorem dX10_fault_1 : decode cX10_fault 1 = .ok (.invokevirtual 207, 3) := dz_at dqX10_fault_p120 1 rfl
theorem dX10_fault_4 : decode cX10_fault 4 = .ok (.ifCond .eq 7, 3) := dz_at dqX10_fault_p120 2 rfl
theorem dX10_fault_7 : decode cX10_fault 7 = .ok (.iconst (-1), 1) := dz_at dqX10_fault_p120 3 rfl
theorem dX10_fault_8 : decode cX10_fault 8 = .ok (.goto 7, 3) := dz_at dqX10_fault_p120 4 rfl
theorem dX10_fault_11 : decode cX10_fault 11 = .ok (.aload_n 0, 1) := dz_at dqX10_fault_p120 5 rfl
theorem dX10_fault_12 : decode cX10_fault 12 = .ok (.getfield 174, 3) := dz_at dqX10_fault_p120 6 rfl
theorem dX10_fault_15 : decode cX10_fault 15 = .ok (.ireturn, 1) := dz_at dqX10_fault_p120 7 rfl
set_option maxRecDepth 20000 in
theorem ggX10_rules_X10_isRead : GoodIn wsX10_rules wsX10_isRead := goodIn_r _ [10, 11, 3, 12, 13, 14, 15, 16, 17, 9, 18, 2, 19, 20, 21, 22, 23, 24, 25, 26, 27, 5, 28, 29, 30, 31, 32, 33, 34, 35, 36, 37, 38, 39, 40, 41, 42, 43, 44, 45, 46, 47, 48, 49, 50, 51, 52, 53, 54, 55, 56, 57, 58, 59, 60, 61, 62, 63, 64, 65, 66, 67, 68, 69, 70, 71, 72, 73, 74, 75, 76, 77, 78, 79, 80, 81, 82, 83, 84, 85, 86, 87, 88, 89, 90] rfl (by decide +kernel)
set_option maxRecDepth 20000 in
theorem gX10_rules_X10_isRead : GoodIn wsX10_rules (wsV RX10 207 RX10 yX10_isRead wsX10_isRead) := goodIn_app (goodIn_of _ (by decide +kernel)) ggX10_rules_X10_isRead
set_option maxRecDepth 20000 in
theorem dqX10_rules_p120 : dz_rn 0 (cX10_rules.data.toList.drop 0) [(0, 4), (3, 1), (4, 8), (2, 0), (0, 12), (0, 8), (0, 19), (0, 1), (2, 0), (4, 4), (0, 4), (3, 0), (0, 1), (0, 4)] = some [(0, .aload_n 0, 1), (1, .invokevirtual 207, 3), (4, .ifCond .ne 6, 3), (7, .bipush (-4), 2), (9, .ireturn, 1), (10, .iconst 0, 1), (11, .istore_n 1, 1), (12, .iload_n 1, 1), (13, .bipush 30, 2), (15, .if_icmp .ge 21, 3), (18, .aload_n 0, 1), (19, .getfield 68, 3), (22, .iload_n 1, 1), (23, .aload_n 0, 1)] := by decide +kernel
theorem dX10_rules_0 : decode cX10_rules 0 = .ok (.aload_n 0, 1) := dz_at dqX10_rules_p120 0 rfl
theorem dX10_rules_1 : decode cX10_rules 1 = .ok (.invokevirtual 207, 3) := dz_at dqX10_rules_p120 1 rfl
theorem dX10_rules_4 : decode cX10_rules 4 = .ok (.ifCond .ne 6, 3) := dz_at dqX10_rules_p120 2 rfl
theorem dX10_rules_7 : decode cX10_rules 7 = .ok (.bipush (-4), 2) := dz_at dqX10_rules_p120 3 rfl
theorem dX10_rules_9 : decode cX10_rules 9 = .ok (.ireturn, 1) := dz_at dqX10_rules_p120 4 rfl
theorem dX10_rules_10 : decode cX10_rules 10 = .ok (.iconst 0, 1) := dz_at dqX10_rules_p120 5 rfl
theorem dX10_rules_11 : decode cX10_rules 11 = .ok (.istore_n 1, 1) := dz_at dqX10_rules_p120 6 rfl
theorem dX10_rules_12 : decode cX10_rules 12 = .ok (.iload_n 1, 1) := dz_at dqX10_rules_p120 7 rfl
theorem dX10_rules_13 : decode cX10_rules 13 = .ok (.bipush 30, 2) := dz_at dqX10_rules_p120 8 rfl
theorem dX10_rules_15 : decode cX10_rules 15 = .ok (.if_icmp .ge 21, 3) := dz_at dqX10_rules_p120 9 rfl
theorem dX10_rules_18 : decode cX10_rules 18 = .ok (.aload_n 0, 1) := dz_at dqX10_rules_p120 10 rfl
theorem dX10_rules_19 : decode cX10_rules 19 = .ok (.getfield 68, 3) := dz_at dqX10_rules_p120 11 rfl
theorem dX10_rules_22 : decode cX10_rules 22 = .ok (.iload_n 1, 1) := dz_at dqX10_rules_p120 12 rfl
theorem dX10_rules_23 : decode cX10_rules 23 = .ok (.aload_n 0, 1) := dz_at dqX10_rules_p120 13 rfl
set_option maxRecDepth 20000 in
theorem dqX10_rules_p121 : dz_rn 24 (cX10_rules.data.toList.drop 24) [(3, 0), (0, 1), (0, 10), (0, 22), (5, 0), (4, 0), (0, 4), (0, 4), (3, 0), (3, 3), (0, 4), (0, 8), (3, 3), (0, 4)] = some [(24, .getfield 65, 3), (27, .iload_n 1, 1), (28, .iaload, 1), (29, .iastore, 1), (30, .iinc 1 1, 3), (33, .goto (-21), 3), (36, .aload_n 0, 1), (37, .aload_n 0, 1), (38, .getfield 201, 3), (41, .putfield 210, 3), (44, .aload_n 0, 1), (45, .iconst 0, 1), (46, .putfield 141, 3), (49, .aload_n 0, 1)] := by decide +kernel
theorem dX10_rules_24 : decode cX10_rules 24 = .ok (.getfield 65, 3) := dz_at dqX10_rules_p121 0 rfl
theorem dX10_rules_27 : decode cX10_rules 27 = .ok (.iload_n 1, 1) := dz_at dqX10_rules_p121 1 rfl
theorem dX10_rules_28 : decode cX10_rules 28 = .ok (.iaload, 1) := dz_at dqX10_rules_p121 2 rfl
theorem dX10_rules_29 : decode cX10_rules 29 = .ok (.iastore, 1) := dz_at dqX10_rules_p121 3 rfl
theorem dX10_rules_30 : decode cX10_rules 30 = .ok (.iinc 1 1, 3) := dz_at dqX10_rules_p121 4 rfl
theorem dX10_rules_33 : decode cX10_rules 33 = .ok (.goto (-21), 3) := dz_at dqX10_rules_p121 5 rfl
theorem dX10_rules_36 : decode cX10_rules 36 = .ok (.aload_n 0, 1) := dz_at dqX10_rules_p121 6 rfl
theorem dX10_rules_37 : decode cX10_rules 37 = .ok (.aload_n 0, 1) := dz_at dqX10_rules_p121 7 rfl
theorem dX10_rules_38 : decode cX10_rules 38 = .ok (.getfield 201, 3) := dz_at dqX10_rules_p121 8 rfl
theorem dX10_rules_41 : decode cX10_rules 41 = .ok (.putfield 210, 3) := dz_at dqX10_rules_p121 9 rfl
theorem dX10_rules_44 : decode cX10_rules 44 = .ok (.aload_n 0, 1) := dz_at dqX10_rules_p121 10 rfl
theorem dX10_rules_45 : decode cX10_rules 45 = .ok (.iconst 0, 1) := dz_at dqX10_rules_p121 11 rfl
theorem dX10_rules_46 : decode cX10_rules 46 = .ok (.putfield 141, 3) := dz_at dqX10_rules_p121 12 rfl
theorem dX10_rules_49 : decode cX10_rules 49 = .ok (.aload_n 0, 1) := dz_at dqX10_rules_p121 13 rfl
set_option maxRecDepth 20000 in
theorem dqX10_rules_p122 : dz_rn 50 (cX10_rules.data.toList.drop 50) [(3, 0), (0, 12)] = some [(50, .getfield 210, 3), (53, .ireturn, 1)] := by decide +kernel
theorem dX10_rules_50 : decode cX10_rules 50 = .ok (.getfield 210, 3) := dz_at dqX10_rules_p122 0 rfl
theorem dX10_rules_53 : decode cX10_rules 53 = .ok (.ireturn, 1) := dz_at dqX10_rules_p122 1 rfl
