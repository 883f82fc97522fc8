set_option maxRecDepth 20000 in
theorem ggX5_init_X5_forget : GoodIn wsX5_init wsX5_forget := goodIn_r _ [11, 5, 6, 12, 13, 14, 15, 16, 17, 18, 19, 20, 21, 22, 23] rfl (by decide +kernel)
set_option maxRecDepth 20000 in
theorem gX5_init_X5_forget : GoodIn wsX5_init (wsV RX5 18 RX5 yX5_forget wsX5_forget) := goodIn_app (goodIn_of _ (by decide +kernel)) ggX5_init_X5_forget
set_option maxRecDepth 20000 in
theorem dqX5_init_p060 : dz_rn 0 (cX5_init.data.toList.drop 0) [(0, 4), (3, 5), (0, 4), (2, 0)] = some [(0, .aload_n 0, 1), (1, .invokespecial 3, 3), (4, .aload_n 0, 1), (5, .bipush 8, 2)] := by decide +kernel
theorem dX5_init_0 : decode cX5_init 0 = .ok (.aload_n 0, 1) := dz_at dqX5_init_p060 0 rfl
theorem dX5_init_1 : decode cX5_init 1 = .ok (.invokespecial 3, 3) := dz_at dqX5_init_p060 1 rfl
theorem dX5_init_4 : decode cX5_init 4 = .ok (.aload_n 0, 1) := dz_at dqX5_init_p060 2 rfl
theorem dX5_init_5 : decode cX5_init 5 = .ok (.bipush 8, 2) := dz_at dqX5_init_p060 3 rfl
theorem dX5_init_7 : decode cX5_init 7 = .ok (.newarray .int, 2) := by decide +kernel
set_option maxRecDepth 20000 in
theorem dqX5_init_p061 : dz_rn 9 (cX5_init.data.toList.drop 9) [(3, 3), (0, 4), (2, 0)] = some [(9, .putfield 9, 3), (12, .aload_n 0, 1), (13, .bipush 8, 2)] := by decide +kernel
theorem dX5_init_9 : decode cX5_init 9 = .ok (.putfield 9, 3) := dz_at dqX5_init_p061 0 rfl
theorem dX5_init_12 : decode cX5_init 12 = .ok (.aload_n 0, 1) := dz_at dqX5_init_p061 1 rfl
theorem dX5_init_13 : decode cX5_init 13 = .ok (.bipush 8, 2) := dz_at dqX5_init_p061 2 rfl
theorem dX5_init_15 : decode cX5_init 15 = .ok (.newarray .int, 2) := by decide +kernel
set_option maxRecDepth 20000 in
theorem dqX5_init_p062 : dz_rn 17 (cX5_init.data.toList.drop 17) [(3, 3), (0, 4), (3, 1), (0, 25)] = some [(17, .putfield 15, 3), (20, .aload_n 0, 1), (21, .invokevirtual 18, 3), (24, .return_, 1)] := by decide +kernel
theorem dX5_init_17 : decode cX5_init 17 = .ok (.putfield 15, 3) := dz_at dqX5_init_p062 0 rfl
theorem dX5_init_20 : decode cX5_init 20 = .ok (.aload_n 0, 1) := dz_at dqX5_init_p062 1 rfl
theorem dX5_init_21 : decode cX5_init 21 = .ok (.invokevirtual 18, 3) := dz_at dqX5_init_p062 2 rfl
theorem dX5_init_24 : decode cX5_init 24 = .ok (.return_, 1) := dz_at dqX5_init_p062 3 rfl
set_option maxRecDepth 20000 in
theorem ggX5_forget_J7_fill_53178 : GoodIn wsX5_forget wsJ7_fill_53178 := goodIn_r _ [9] rfl (by decide +kernel)
set_option maxRecDepth 20000 in
theorem gX5_forget_J7_fill_53178 : GoodIn wsX5_forget (va_wsS RX5 21 yJ7_fill_53178 wsJ7_fill_53178) := goodIn_app (goodIn_of _ (by decide +kernel)) ggX5_forget_J7_fill_53178
set_option maxRecDepth 20000 in
theorem dqX5_forget_p060 : dz_rn 0 (cX5_forget.data.toList.drop 0) [(0, 4), (3, 0), (0, 13), (3, 2), (0, 4), (3, 0), (0, 13), (3, 2), (0, 4), (0, 13), (3, 3), (0, 4), (0, 13), (3, 3)] = some [(0, .aload_n 0, 1), (1, .getfield 9, 3), (4, .iconst (-1), 1), (5, .invokestatic 21, 3), (8, .aload_n 0, 1), (9, .getfield 15, 3), (12, .iconst (-1), 1), (13, .invokestatic 21, 3), (16, .aload_n 0, 1), (17, .iconst (-1), 1), (18, .putfield 27, 3), (21, .aload_n 0, 1), (22, .iconst (-1), 1), (23, .putfield 31, 3)] := by decide +kernel
theorem dX5_forget_0 : decode cX5_forget 0 = .ok (.aload_n 0, 1) := dz_at dqX5_forget_p060 0 rfl
theorem dX5_forget_1 : decode cX5_forget 1 = .ok (.getfield 9, 3) := dz_at dqX5_forget_p060 1 rfl
theorem dX5_forget_4 : decode cX5_forget 4 = .ok (.iconst (-1), 1) := dz_at dqX5_forget_p060 2 rfl
theorem dX5_forget_5 : decode cX5_forget 5 = .ok (.invokestatic 21, 3) := dz_at dqX5_forget_p060 3 rfl
theorem dX5_forget_8 : decode cX5_forget 8 = .ok (.aload_n 0, 1) := dz_at dqX5_forget_p060 4 rfl
theorem dX5_forget_9 : decode cX5_forget 9 = .ok (.getfield 15, 3) := dz_at dqX5_forget_p060 5 rfl
theorem dX5_forget_12 : decode cX5_forget 12 = .ok (.iconst (-1), 1) := dz_at dqX5_forget_p060 6 rfl
theorem dX5_forget_13 : decode cX5_forget 13 = .ok (.invokestatic 21, 3) := dz_at dqX5_forget_p060 7 rfl
theorem dX5_forget_16 : decode cX5_forget 16 = .ok (.aload_n 0, 1) := dz_at dqX5_forget_p060 8 rfl
theorem dX5_forget_17 : decode cX5_forget 17 = .ok (.iconst (-1), 1) := dz_at dqX5_forget_p060 9 rfl
theorem dX5_forget_18 : decode cX5_forget 18 = .ok (.putfield 27, 3) := dz_at dqX5_forget_p060 10 rfl
theorem dX5_forget_21 : decode cX5_forget 21 = .ok (.aload_n 0, 1) := dz_at dqX5_forget_p060 11 rfl
theorem dX5_forget_22 : decode cX5_forget 22 = .ok (.iconst (-1), 1) := dz_at dqX5_forget_p060 12 rfl
theorem dX5_forget_23 : decode cX5_forget 23 = .ok (.putfield 31, 3) := dz_at dqX5_forget_p060 13 rfl
set_option maxRecDepth 20000 in
theorem dqX5_forget_p061 : dz_rn 26 (cX5_forget.data.toList.drop 26) [(0, 4), (0, 8), (3, 3), (0, 25)] = some [(26, .aload_n 0, 1), (27, .iconst 0, 1), (28, .putfield 34, 3), (31, .return_, 1)] := by decide +kernel
theorem dX5_forget_26 : decode cX5_forget 26 = .ok (.aload_n 0, 1) := dz_at dqX5_forget_p061 0 rfl
theorem dX5_forget_27 : decode cX5_forget 27 = .ok (.iconst 0, 1) := dz_at dqX5_forget_p061 1 rfl
theorem dX5_forget_28 : decode cX5_forget 28 = .ok (.putfield 34, 3) := dz_at dqX5_forget_p061 2 rfl
theorem dX5_forget_31 : decode cX5_forget 31 = .ok (.return_, 1) := dz_at dqX5_forget_p061 3 rfl
set_option maxRecDepth 20000 in
theorem dqX5_cornersToUse_p060 : dz_rn 0 (cX5_cornersToUse.data.toList.drop 0) [(0, 4), (3, 0), (0, 1), (0, 10), (0, 13), (4, 2), (2, 0), (4, 0), (0, 4), (3, 0), (0, 1), (0, 10), (2, 0), (3, 2)] = some [(0, .aload_n 0, 1), (1, .getfield 9, 3), (4, .iload_n 1, 1), (5, .iaload, 1), (6, .iconst (-1), 1), (7, .if_icmp .ne 8, 3), (10, .bipush 6, 2), (12, .goto 14, 3), (15, .aload_n 0, 1), (16, .getfield 9, 3), (19, .iload_n 1, 1), (20, .iaload, 1), (21, .bipush 6, 2), (23, .invokestatic 37, 3)] := by decide +kernel
theorem dX5_cornersToUse_0 : decode cX5_cornersToUse 0 = .ok (.aload_n 0, 1) := dz_at dqX5_cornersToUse_p060 0 rfl
theorem dX5_cornersToUse_1 : decode cX5_cornersToUse 1 = .ok (.getfield 9, 3) := dz_at dqX5_cornersToUse_p060 1 rfl
theorem dX5_cornersToUse_4 : decode cX5_cornersToUse 4 = .ok (.iload_n 1, 1) := dz_at dqX5_cornersToUse_p060 2 rfl
theorem dX5_cornersToUse_5 : decode cX5_cornersToUse 5 = .ok (.iaload, 1) := dz_at dqX5_cornersToUse_p060 3 rfl
theorem dX5_cornersToUse_6 : decode cX5_cornersToUse 6 = .ok (.iconst (-1), 1) := dz_at dqX5_cornersToUse_p060 4 rfl
theorem dX5_cornersToUse_7 : decode cX5_cornersToUse 7 = .ok (.if_icmp .ne 8, 3) := dz_at dqX5_cornersToUse_p060 5 rfl
theorem dX5_cornersToUse_10 : decode cX5_cornersToUse 10 = .ok (.bipush 6, 2) := dz_at dqX5_cornersToUse_p060 6 rfl
theorem dX5_cornersToUse_12 : decode cX5_cornersToUse 12 = .ok (.goto 14, 3) := dz_at dqX5_cornersToUse_p060 7 rfl
theorem dX5_cornersToUse_15 : decode cX5_cornersToUse 15 = .ok (.aload_n 0, 1) := dz_at dqX5_cornersToUse_p060 8 rfl
theorem dX5_cornersToUse_16 : decode cX5_cornersToUse 16 = .ok (.getfield 9, 3) := dz_at dqX5_cornersToUse_p060 9 rfl
theorem dX5_cornersToUse_19 : decode cX5_cornersToUse 19 = .ok (.iload_n 1, 1) := dz_at dqX5_cornersToUse_p060 10 rfl
theorem dX5_cornersToUse_20 : decode cX5_cornersToUse 20 = .ok (.iaload, 1) := dz_at dqX5_cornersToUse_p060 11 rfl
theorem dX5_cornersToUse_21 : decode cX5_cornersToUse 21 = .ok (.bipush 6, 2) := dz_at dqX5_cornersToUse_p060 12 rfl
theorem dX5_cornersToUse_23 : decode cX5_cornersToUse 23 = .ok (.invokestatic 37, 3) := dz_at dqX5_cornersToUse_p060 13 rfl
theorem dX5_cornersToUse_26 : decode cX5_cornersToUse 26 = .ok (.ireturn, 1) := by decide +kernel
set_option maxRecDepth 20000 in
theorem dqX4_init_p060 : dz_rn 0 (cX4_init.data.toList.drop 0) [(0, 4), (3, 5), (0, 4), (2, 0)] = some [(0, .aload_n 0, 1), (1, .invokespecial 5, 3), (4, .aload_n 0, 1), (5, .bipush 81, 2)] := by decide +kernel
theorem dX4_init_0 : decode cX4_init 0 = .ok (.aload_n 0, 1) := dz_at dqX4_init_p060 0 rfl
theorem dX4_init_1 : decode cX4_init 1 = .ok (.invokespecial 5, 3) := dz_at dqX4_init_p060 1 rfl
theorem dX4_init_4 : decode cX4_init 4 = .ok (.aload_n 0, 1) := dz_at dqX4_init_p060 2 rfl
theorem dX4_init_5 : decode cX4_init 5 = .ok (.bipush 81, 2) := dz_at dqX4_init_p060 3 rfl
theorem dX4_init_7 : decode cX4_init 7 = .ok (.newarray .int, 2) := by decide +kernel
set_option maxRecDepth 20000 in
theorem dqX4_init_p061 : dz_rn 9 (cX4_init.data.toList.drop 9) [(3, 3), (0, 25)] = some [(9, .putfield 11, 3), (12, .return_, 1)] := by decide +kernel
theorem dX4_init_9 : decode cX4_init 9 = .ok (.putfield 11, 3) := dz_at dqX4_init_p061 0 rfl
theorem dX4_init_12 : decode cX4_init 12 = .ok (.return_, 1) := dz_at dqX4_init_p061 1 rfl
set_option maxRecDepth 20000 in
theorem ggX4_note_X4_saysRight : GoodIn wsX4_note wsX4_saysRight := goodIn_r _ [6, 7, 8, 5, 9, 10, 11, 12] rfl (by decide +kernel)
set_option maxRecDepth 20000 in
theorem gX4_note_X4_saysRight : GoodIn wsX4_note (va_wsS RX4 15 yX4_saysRight wsX4_saysRight) := goodIn_app (goodIn_of _ (by decide +kernel)) ggX4_note_X4_saysRight
set_option maxRecDepth 20000 in
theorem dqX4_note_p060 : dz_rn 0 (cX4_note.data.toList.drop 0) [(0, 8), (0, 21), (0, 3), (2, 0), (4, 4), (0, 3), (0, 1), (3, 2), (0, 2), (4, 2), (0, 4), (3, 0), (0, 3), (0, 41)] = some [(0, .iconst 0, 1), (1, .istore_n 3, 1), (2, .iload_n 3, 1), (3, .bipush 81, 2), (5, .if_icmp .ge 28, 3), (8, .iload_n 3, 1), (9, .iload_n 1, 1), (10, .invokestatic 15, 3), (13, .iload_n 2, 1), (14, .if_icmp .ne 13, 3), (17, .aload_n 0, 1), (18, .getfield 11, 3), (21, .iload_n 3, 1), (22, .dup2, 1)] := by decide +kernel
theorem dX4_note_0 : decode cX4_note 0 = .ok (.iconst 0, 1) := dz_at dqX4_note_p060 0 rfl
theorem dX4_note_1 : decode cX4_note 1 = .ok (.istore_n 3, 1) := dz_at dqX4_note_p060 1 rfl
theorem dX4_note_2 : decode cX4_note 2 = .ok (.iload_n 3, 1) := dz_at dqX4_note_p060 2 rfl
theorem dX4_note_3 : decode cX4_note 3 = .ok (.bipush 81, 2) := dz_at dqX4_note_p060 3 rfl
theorem dX4_note_5 : decode cX4_note 5 = .ok (.if_icmp .ge 28, 3) := dz_at dqX4_note_p060 4 rfl
theorem dX4_note_8 : decode cX4_note 8 = .ok (.iload_n 3, 1) := dz_at dqX4_note_p060 5 rfl
theorem dX4_note_9 : decode cX4_note 9 = .ok (.iload_n 1, 1) := dz_at dqX4_note_p060 6 rfl
theorem dX4_note_10 : decode cX4_note 10 = .ok (.invokestatic 15, 3) := dz_at dqX4_note_p060 7 rfl
theorem dX4_note_13 : decode cX4_note 13 = .ok (.iload_n 2, 1) := dz_at dqX4_note_p060 8 rfl
theorem dX4_note_14 : decode cX4_note 14 = .ok (.if_icmp .ne 13, 3) := dz_at dqX4_note_p060 9 rfl
theorem dX4_note_17 : decode cX4_note 17 = .ok (.aload_n 0, 1) := dz_at dqX4_note_p060 10 rfl
theorem dX4_note_18 : decode cX4_note 18 = .ok (.getfield 11, 3) := dz_at dqX4_note_p060 11 rfl
theorem dX4_note_21 : decode cX4_note 21 = .ok (.iload_n 3, 1) := dz_at dqX4_note_p060 12 rfl
theorem dX4_note_22 : decode cX4_note 22 = .ok (.dup2, 1) := dz_at dqX4_note_p060 13 rfl
set_option maxRecDepth 20000 in
theorem dqX4_note_p061 : dz_rn 23 (cX4_note.data.toList.drop 23) [(0, 10), (0, 9), (0, 11), (0, 22), (5, 0), (4, 0), (0, 4), (0, 28), (3, 0), (0, 9), (0, 11), (3, 3), (0, 25)] = some [(23, .iaload, 1), (24, .iconst 1, 1), (25, .iadd, 1), (26, .iastore, 1), (27, .iinc 3 1, 3), (30, .goto (-28), 3), (33, .aload_n 0, 1), (34, .dup, 1), (35, .getfield 19, 3), (38, .iconst 1, 1), (39, .iadd, 1), (40, .putfield 19, 3), (43, .return_, 1)] := by decide +kernel
theorem dX4_note_23 : decode cX4_note 23 = .ok (.iaload, 1) := dz_at dqX4_note_p061 0 rfl
theorem dX4_note_24 : decode cX4_note 24 = .ok (.iconst 1, 1) := dz_at dqX4_note_p061 1 rfl
theorem dX4_note_25 : decode cX4_note 25 = .ok (.iadd, 1) := dz_at dqX4_note_p061 2 rfl
theorem dX4_note_26 : decode cX4_note 26 = .ok (.iastore, 1) := dz_at dqX4_note_p061 3 rfl
theorem dX4_note_27 : decode cX4_note 27 = .ok (.iinc 3 1, 3) := dz_at dqX4_note_p061 4 rfl
theorem dX4_note_30 : decode cX4_note 30 = .ok (.goto (-28), 3) := dz_at dqX4_note_p061 5 rfl
theorem dX4_note_33 : decode cX4_note 33 = .ok (.aload_n 0, 1) := dz_at dqX4_note_p061 6 rfl
theorem dX4_note_34 : decode cX4_note 34 = .ok (.dup, 1) := dz_at dqX4_note_p061 7 rfl
theorem dX4_note_35 : decode cX4_note 35 = .ok (.getfield 19, 3) := dz_at dqX4_note_p061 8 rfl
theorem dX4_note_38 : decode cX4_note 38 = .ok (.iconst 1, 1) := dz_at dqX4_note_p061 9 rfl
theorem dX4_note_39 : decode cX4_note 39 = .ok (.iadd, 1) := dz_at dqX4_note_p061 10 rfl
theorem dX4_note_40 : decode cX4_note 40 = .ok (.putfield 19, 3) := dz_at dqX4_note_p061 11 rfl
theorem dX4_note_43 : decode cX4_note 43 = .ok (.return_, 1) := dz_at dqX4_note_p061 12 rfl
set_option maxRecDepth 20000 in
theorem dqX4_lossOf_p060 : dz_rn 0 (cX4_lossOf.data.toList.drop 0) [(0, 0), (2, 0), (0, 27), (0, 9), (0, 11), (0, 12)] = some [(0, .iload_n 0, 1), (1, .bipush 9, 2), (3, .idiv, 1), (4, .iconst 1, 1), (5, .iadd, 1), (6, .ireturn, 1)] := by decide +kernel
theorem dX4_lossOf_0 : decode cX4_lossOf 0 = .ok (.iload_n 0, 1) := dz_at dqX4_lossOf_p060 0 rfl
theorem dX4_lossOf_1 : decode cX4_lossOf 1 = .ok (.bipush 9, 2) := dz_at dqX4_lossOf_p060 1 rfl
theorem dX4_lossOf_3 : decode cX4_lossOf 3 = .ok (.idiv, 1) := dz_at dqX4_lossOf_p060 2 rfl
theorem dX4_lossOf_4 : decode cX4_lossOf 4 = .ok (.iconst 1, 1) := dz_at dqX4_lossOf_p060 3 rfl
theorem dX4_lossOf_5 : decode cX4_lossOf 5 = .ok (.iadd, 1) := dz_at dqX4_lossOf_p060 4 rfl
theorem dX4_lossOf_6 : decode cX4_lossOf 6 = .ok (.ireturn, 1) := dz_at dqX4_lossOf_p060 5 rfl
set_option maxRecDepth 20000 in
theorem dqX4_limitOf_p060 : dz_rn 0 (cX4_limitOf.data.toList.drop 0) [(0, 0), (2, 0), (0, 30), (0, 9), (0, 11), (2, 0), (0, 23), (0, 12)] = some [(0, .iload_n 0, 1), (1, .bipush 9, 2), (3, .irem, 1), (4, .iconst 1, 1), (5, .iadd, 1), (6, .bipush 10, 2), (8, .imul, 1), (9, .ireturn, 1)] := by decide +kernel
theorem dX4_limitOf_0 : decode cX4_limitOf 0 = .ok (.iload_n 0, 1) := dz_at dqX4_limitOf_p060 0 rfl
theorem dX4_limitOf_1 : decode cX4_limitOf 1 = .ok (.bipush 9, 2) := dz_at dqX4_limitOf_p060 1 rfl
theorem dX4_limitOf_3 : decode cX4_limitOf 3 = .ok (.irem, 1) := dz_at dqX4_limitOf_p060 2 rfl
theorem dX4_limitOf_4 : decode cX4_limitOf 4 = .ok (.iconst 1, 1) := dz_at dqX4_limitOf_p060 3 rfl
theorem dX4_limitOf_5 : decode cX4_limitOf 5 = .ok (.iadd, 1) := dz_at dqX4_limitOf_p060 4 rfl
theorem dX4_limitOf_6 : decode cX4_limitOf 6 = .ok (.bipush 10, 2) := dz_at dqX4_limitOf_p060 5 rfl
theorem dX4_limitOf_8 : decode cX4_limitOf 8 = .ok (.imul, 1) := dz_at dqX4_limitOf_p060 6 rfl
theorem dX4_limitOf_9 : decode cX4_limitOf 9 = .ok (.ireturn, 1) := dz_at dqX4_limitOf_p060 7 rfl
set_option maxRecDepth 20000 in
theorem ggX4_saysRight_X4_lossOf : GoodIn wsX4_saysRight wsX4_lossOf := goodIn_r _ [4] rfl (by decide +kernel)
set_option maxRecDepth 20000 in
theorem gX4_saysRight_X4_lossOf : GoodIn wsX4_saysRight (va_wsS RX4 23 yX4_lossOf wsX4_lossOf) := goodIn_app (goodIn_of _ (by decide +kernel)) ggX4_saysRight_X4_lossOf
set_option maxRecDepth 20000 in
theorem ggX4_saysRight_X4_limitOf : GoodIn wsX4_saysRight wsX4_limitOf := goodIn_r _ [7] rfl (by decide +kernel)
set_option maxRecDepth 20000 in
theorem gX4_saysRight_X4_limitOf : GoodIn wsX4_saysRight (va_wsS RX4 27 yX4_limitOf wsX4_limitOf) := goodIn_app (goodIn_of _ (by decide +kernel)) ggX4_saysRight_X4_limitOf
set_option maxRecDepth 20000 in
theorem dqX4_saysRight_p060 : dz_rn 0 (cX4_saysRight.data.toList.drop 0) [(2, 0), (0, 0), (3, 2), (0, 1), (0, 23), (0, 26), (0, 0), (3, 2), (4, 3), (0, 9), (4, 0), (0, 8), (0, 12)] = some [(0, .bipush 100, 2), (2, .iload_n 0, 1), (3, .invokestatic 23, 3), (6, .iload_n 1, 1), (7, .imul, 1), (8, .isub, 1), (9, .iload_n 0, 1), (10, .invokestatic 27, 3), (13, .if_icmp .lt 7, 3), (16, .iconst 1, 1), (17, .goto 4, 3), (20, .iconst 0, 1), (21, .ireturn, 1)] := by decide +kernel
theorem dX4_saysRight_0 : decode cX4_saysRight 0 = .ok (.bipush 100, 2) := dz_at dqX4_saysRight_p060 0 rfl
theorem dX4_saysRight_2 : decode cX4_saysRight 2 = .ok (.iload_n 0, 1) := dz_at dqX4_saysRight_p060 1 rfl
theorem dX4_saysRight_3 : decode cX4_saysRight 3 = .ok (.invokestatic 23, 3) := dz_at dqX4_saysRight_p060 2 rfl
theorem dX4_saysRight_6 : decode cX4_saysRight 6 = .ok (.iload_n 1, 1) := dz_at dqX4_saysRight_p060 3 rfl
theorem dX4_saysRight_7 : decode cX4_saysRight 7 = .ok (.imul, 1) := dz_at dqX4_saysRight_p060 4 rfl
theorem dX4_saysRight_8 : decode cX4_saysRight 8 = .ok (.isub, 1) := dz_at dqX4_saysRight_p060 5 rfl
theorem dX4_saysRight_9 : decode cX4_saysRight 9 = .ok (.iload_n 0, 1) := dz_at dqX4_saysRight_p060 6 rfl
theorem dX4_saysRight_10 : decode cX4_saysRight 10 = .ok (.invokestatic 27, 3) := dz_at dqX4_saysRight_p060 7 rfl
theorem dX4_saysRight_13 : decode cX4_saysRight 13 = .ok (.if_icmp .lt 7, 3) := dz_at dqX4_saysRight_p060 8 rfl
theorem dX4_saysRight_16 : decode cX4_saysRight 16 = .ok (.iconst 1, 1) := dz_at dqX4_saysRight_p060 9 rfl
theorem dX4_saysRight_17 : decode cX4_saysRight 17 = .ok (.goto 4, 3) := dz_at dqX4_saysRight_p060 10 rfl
theorem dX4_saysRight_20 : decode cX4_saysRight 20 = .ok (.iconst 0, 1) := dz_at dqX4_saysRight_p060 11 rfl
theorem dX4_saysRight_21 : decode cX4_saysRight 21 = .ok (.ireturn, 1) := dz_at dqX4_saysRight_p060 12 rfl
set_option maxRecDepth 20000 in
theorem dqX4_mayBe_p060 : dz_rn 0 (cX4_mayBe.data.toList.drop 0) [(0, 4), (3, 0), (0, 1), (0, 10), (0, 4), (3, 0), (4, 2), (0, 9), (4, 0), (0, 8), (0, 12)] = some [(0, .aload_n 0, 1), (1, .getfield 11, 3), (4, .iload_n 1, 1), (5, .iaload, 1), (6, .aload_n 0, 1), (7, .getfield 19, 3), (10, .if_icmp .ne 7, 3), (13, .iconst 1, 1), (14, .goto 4, 3), (17, .iconst 0, 1), (18, .ireturn, 1)] := by decide +kernel
theorem dX4_mayBe_0 : decode cX4_mayBe 0 = .ok (.aload_n 0, 1) := dz_at dqX4_mayBe_p060 0 rfl
theorem dX4_mayBe_1 : decode cX4_mayBe 1 = .ok (.getfield 11, 3) := dz_at dqX4_mayBe_p060 1 rfl
theorem dX4_mayBe_4 : decode cX4_mayBe 4 = .ok (.iload_n 1, 1) := dz_at dqX4_mayBe_p060 2 rfl
theorem dX4_mayBe_5 : decode cX4_mayBe 5 = .ok (.iaload, 1) := dz_at dqX4_mayBe_p060 3 rfl
theorem dX4_mayBe_6 : decode cX4_mayBe 6 = .ok (.aload_n 0, 1) := dz_at dqX4_mayBe_p060 4 rfl
theorem dX4_mayBe_7 : decode cX4_mayBe 7 = .ok (.getfield 19, 3) := dz_at dqX4_mayBe_p060 5 rfl
theorem dX4_mayBe_10 : decode cX4_mayBe 10 = .ok (.if_icmp .ne 7, 3) := dz_at dqX4_mayBe_p060 6 rfl
theorem dX4_mayBe_13 : decode cX4_mayBe 13 = .ok (.iconst 1, 1) := dz_at dqX4_mayBe_p060 7 rfl
theorem dX4_mayBe_14 : decode cX4_mayBe 14 = .ok (.goto 4, 3) := dz_at dqX4_mayBe_p060 8 rfl
theorem dX4_mayBe_17 : decode cX4_mayBe 17 = .ok (.iconst 0, 1) := dz_at dqX4_mayBe_p060 9 rfl
theorem dX4_mayBe_18 : decode cX4_mayBe 18 = .ok (.ireturn, 1) := dz_at dqX4_mayBe_p060 10 rfl
set_option maxRecDepth 20000 in
theorem ggX4_tablesThatMayBe_X4_mayBe : GoodIn wsX4_tablesThatMayBe wsX4_mayBe := goodIn_r _ [5, 6, 7, 8, 9] rfl (by decide +kernel)
set_option maxRecDepth 20000 in
theorem gX4_tablesThatMayBe_X4_mayBe : GoodIn wsX4_tablesThatMayBe (wsV RX4 30 RX4 yX4_mayBe wsX4_mayBe) := goodIn_app (goodIn_of _ (by decide +kernel)) ggX4_tablesThatMayBe_X4_mayBe
set_option maxRecDepth 20000 in
theorem dqX4_tablesThatMayBe_p060 : dz_rn 0 (cX4_tablesThatMayBe.data.toList.drop 0) [(0, 8), (0, 19), (0, 8), (0, 20), (0, 2), (2, 0), (4, 4), (0, 4), (0, 2), (3, 1), (4, 7), (5, 0), (5, 0), (4, 0)] = some [(0, .iconst 0, 1), (1, .istore_n 1, 1), (2, .iconst 0, 1), (3, .istore_n 2, 1), (4, .iload_n 2, 1), (5, .bipush 81, 2), (7, .if_icmp .ge 20, 3), (10, .aload_n 0, 1), (11, .iload_n 2, 1), (12, .invokevirtual 30, 3), (15, .ifCond .eq 6, 3), (18, .iinc 1 1, 3), (21, .iinc 2 1, 3), (24, .goto (-20), 3)] := by decide +kernel
theorem dX4_tablesThatMayBe_0 : decode cX4_tablesThatMayBe 0 = .ok (.iconst 0, 1) := dz_at dqX4_tablesThatMayBe_p060 0 rfl
theorem dX4_tablesThatMayBe_1 : decode cX4_tablesThatMayBe 1 = .ok (.istore_n 1, 1) := dz_at dqX4_tablesThatMayBe_p060 1 rfl
theorem dX4_tablesThatMayBe_2 : decode cX4_tablesThatMayBe 2 = .ok (.iconst 0, 1) := dz_at dqX4_tablesThatMayBe_p060 2 rfl
theorem dX4_tablesThatMayBe_3 : decode cX4_tablesThatMayBe 3 = .ok (.istore_n 2, 1) := dz_at dqX4_tablesThatMayBe_p060 3 rfl
theorem dX4_tablesThatMayBe_4 : decode cX4_tablesThatMayBe 4 = .ok (.iload_n 2, 1) := dz_at dqX4_tablesThatMayBe_p060 4 rfl
theorem dX4_tablesThatMayBe_5 : decode cX4_tablesThatMayBe 5 = .ok (.bipush 81, 2) := dz_at dqX4_tablesThatMayBe_p060 5 rfl
theorem dX4_tablesThatMayBe_7 : decode cX4_tablesThatMayBe 7 = .ok (.if_icmp .ge 20, 3) := dz_at dqX4_tablesThatMayBe_p060 6 rfl
theorem dX4_tablesThatMayBe_10 : decode cX4_tablesThatMayBe 10 = .ok (.aload_n 0, 1) := dz_at dqX4_tablesThatMayBe_p060 7 rfl
theorem dX4_tablesThatMayBe_11 : decode cX4_tablesThatMayBe 11 = .ok (.iload_n 2, 1) := dz_at dqX4_tablesThatMayBe_p060 8 rfl
theorem dX4_tablesThatMayBe_12 : decode cX4_tablesThatMayBe 12 = .ok (.invokevirtual 30, 3) := dz_at dqX4_tablesThatMayBe_p060 9 rfl
theorem dX4_tablesThatMayBe_15 : decode cX4_tablesThatMayBe 15 = .ok (.ifCond .eq 6, 3) := dz_at dqX4_tablesThatMayBe_p060 10 rfl
theorem dX4_tablesThatMayBe_18 : decode cX4_tablesThatMayBe 18 = .ok (.iinc 1 1, 3) := dz_at dqX4_tablesThatMayBe_p060 11 rfl
theorem dX4_tablesThatMayBe_21 : decode cX4_tablesThatMayBe 21 = .ok (.iinc 2 1, 3) := dz_at dqX4_tablesThatMayBe_p060 12 rfl
theorem dX4_tablesThatMayBe_24 : decode cX4_tablesThatMayBe 24 = .ok (.goto (-20), 3) := dz_at dqX4_tablesThatMayBe_p060 13 rfl
set_option maxRecDepth 20000 in
theorem dqX4_tablesThatMayBe_p061 : dz_rn 27 (cX4_tablesThatMayBe.data.toList.drop 27) [(0, 1), (0, 12)] = some [(27, .iload_n 1, 1), (28, .ireturn, 1)] := by decide +kernel
theorem dX4_tablesThatMayBe_27 : decode cX4_tablesThatMayBe 27 = .ok (.iload_n 1, 1) := dz_at dqX4_tablesThatMayBe_p061 0 rfl
theorem dX4_tablesThatMayBe_28 : decode cX4_tablesThatMayBe 28 = .ok (.ireturn, 1) := dz_at dqX4_tablesThatMayBe_p061 1 rfl
set_option maxRecDepth 20000 in
theorem dqX4_likeliest_p060 : dz_rn 0 (cX4_likeliest.data.toList.drop 0) [(0, 8), (0, 19), (0, 9), (0, 20), (0, 2), (2, 0), (4, 4), (0, 4), (3, 0), (0, 2), (0, 10), (0, 4), (3, 0), (0, 1)] = some [(0, .iconst 0, 1), (1, .istore_n 1, 1), (2, .iconst 1, 1), (3, .istore_n 2, 1), (4, .iload_n 2, 1), (5, .bipush 81, 2), (7, .if_icmp .ge 26, 3), (10, .aload_n 0, 1), (11, .getfield 11, 3), (14, .iload_n 2, 1), (15, .iaload, 1), (16, .aload_n 0, 1), (17, .getfield 11, 3), (20, .iload_n 1, 1)] := by decide +kernel
theorem dX4_likeliest_0 : decode cX4_likeliest 0 = .ok (.iconst 0, 1) := dz_at dqX4_likeliest_p060 0 rfl
theorem dX4_likeliest_1 : decode cX4_likeliest 1 = .ok (.istore_n 1, 1) := dz_at dqX4_likeliest_p060 1 rfl
theorem dX4_likeliest_2 : decode cX4_likeliest 2 = .ok (.iconst 1, 1) := dz_at dqX4_likeliest_p060 2 rfl
theorem dX4_likeliest_3 : decode cX4_likeliest 3 = .ok (.istore_n 2, 1) := dz_at dqX4_likeliest_p060 3 rfl
theorem dX4_likeliest_4 : decode cX4_likeliest 4 = .ok (.iload_n 2, 1) := dz_at dqX4_likeliest_p060 4 rfl
theorem dX4_likeliest_5 : decode cX4_likeliest 5 = .ok (.bipush 81, 2) := dz_at dqX4_likeliest_p060 5 rfl
theorem dX4_likeliest_7 : decode cX4_likeliest 7 = .ok (.if_icmp .ge 26, 3) := dz_at dqX4_likeliest_p060 6 rfl
theorem dX4_likeliest_10 : decode cX4_likeliest 10 = .ok (.aload_n 0, 1) := dz_at dqX4_likeliest_p060 7 rfl
theorem dX4_likeliest_11 : decode cX4_likeliest 11 = .ok (.getfield 11, 3) := dz_at dqX4_likeliest_p060 8 rfl
theorem dX4_likeliest_14 : decode cX4_likeliest 14 = .ok (.iload_n 2, 1) := dz_at dqX4_likeliest_p060 9 rfl
theorem dX4_likeliest_15 : decode cX4_likeliest 15 = .ok (.iaload, 1) := dz_at dqX4_likeliest_p060 10 rfl
theorem dX4_likeliest_16 : decode cX4_likeliest 16 = .ok (.aload_n 0, 1) := dz_at dqX4_likeliest_p060 11 rfl
theorem dX4_likeliest_17 : decode cX4_likeliest 17 = .ok (.getfield 11, 3) := dz_at dqX4_likeliest_p060 12 rfl
theorem dX4_likeliest_20 : decode cX4_likeliest 20 = .ok (.iload_n 1, 1) := dz_at dqX4_likeliest_p060 13 rfl
set_option maxRecDepth 20000 in
theorem dqX4_likeliest_p061 : dz_rn 21 (cX4_likeliest.data.toList.drop 21) [(0, 10), (4, 6), (0, 2), (0, 19), (5, 0), (4, 0), (0, 1), (0, 12)] = some [(21, .iaload, 1), (22, .if_icmp .le 5, 3), (25, .iload_n 2, 1), (26, .istore_n 1, 1), (27, .iinc 2 1, 3), (30, .goto (-26), 3), (33, .iload_n 1, 1), (34, .ireturn, 1)] := by decide +kernel
theorem dX4_likeliest_21 : decode cX4_likeliest 21 = .ok (.iaload, 1) := dz_at dqX4_likeliest_p061 0 rfl
theorem dX4_likeliest_22 : decode cX4_likeliest 22 = .ok (.if_icmp .le 5, 3) := dz_at dqX4_likeliest_p061 1 rfl
theorem dX4_likeliest_25 : decode cX4_likeliest 25 = .ok (.iload_n 2, 1) := dz_at dqX4_likeliest_p061 2 rfl
theorem dX4_likeliest_26 : decode cX4_likeliest 26 = .ok (.istore_n 1, 1) := dz_at dqX4_likeliest_p061 3 rfl
theorem dX4_likeliest_27 : decode cX4_likeliest 27 = .ok (.iinc 2 1, 3) := dz_at dqX4_likeliest_p061 4 rfl
theorem dX4_likeliest_30 : decode cX4_likeliest 30 = .ok (.goto (-26), 3) := dz_at dqX4_likeliest_p061 5 rfl
theorem dX4_likeliest_33 : decode cX4_likeliest 33 = .ok (.iload_n 1, 1) := dz_at dqX4_likeliest_p061 6 rfl
theorem dX4_likeliest_34 : decode cX4_likeliest 34 = .ok (.ireturn, 1) := dz_at dqX4_likeliest_p061 7 rfl
set_option maxRecDepth 20000 in
theorem ggX4_nameOfLikeliest_X4_likeliest : GoodIn wsX4_nameOfLikeliest wsX4_likeliest := goodIn_r _ [5, 6, 13, 14] rfl (by decide +kernel)
set_option maxRecDepth 20000 in
theorem gX4_nameOfLikeliest_X4_likeliest : GoodIn wsX4_nameOfLikeliest (wsV RX4 34 RX4 yX4_likeliest wsX4_likeliest) := goodIn_app (goodIn_of _ (by decide +kernel)) ggX4_nameOfLikeliest_X4_likeliest
set_option maxRecDepth 20000 in
theorem ggX4_nameOfLikeliest_X4_lossOf : GoodIn wsX4_nameOfLikeliest wsX4_lossOf := goodIn_r _ [9] rfl (by decide +kernel)
set_option maxRecDepth 20000 in
theorem gX4_nameOfLikeliest_X4_lossOf : GoodIn wsX4_nameOfLikeliest (va_wsS RX4 23 yX4_lossOf wsX4_lossOf) := goodIn_app (goodIn_of _ (by decide +kernel)) ggX4_nameOfLikeliest_X4_lossOf
set_option maxRecDepth 20000 in
theorem ggX4_nameOfLikeliest_X4_limitOf : GoodIn wsX4_nameOfLikeliest wsX4_limitOf := goodIn_r _ [12] rfl (by decide +kernel)
set_option maxRecDepth 20000 in
theorem gX4_nameOfLikeliest_X4_limitOf : GoodIn wsX4_nameOfLikeliest (va_wsS RX4 27 yX4_limitOf wsX4_limitOf) := goodIn_app (goodIn_of _ (by decide +kernel)) ggX4_nameOfLikeliest_X4_limitOf
set_option maxRecDepth 20000 in
theorem dqX4_nameOfLikeliest_p060 : dz_rn 0 (cX4_nameOfLikeliest.data.toList.drop 0) [(0, 4), (3, 1), (0, 19), (2, 0), (0, 1), (3, 2), (0, 23), (0, 1), (3, 2), (0, 11), (0, 12)] = some [(0, .aload_n 0, 1), (1, .invokevirtual 34, 3), (4, .istore_n 1, 1), (5, .bipush 100, 2), (7, .iload_n 1, 1), (8, .invokestatic 23, 3), (11, .imul, 1), (12, .iload_n 1, 1), (13, .invokestatic 27, 3), (16, .iadd, 1), (17, .ireturn, 1)] := by decide +kernel
theorem dX4_nameOfLikeliest_0 : decode cX4_nameOfLikeliest 0 = .ok (.aload_n 0, 1) := dz_at dqX4_nameOfLikeliest_p060 0 rfl
theorem dX4_nameOfLikeliest_1 : decode cX4_nameOfLikeliest 1 = .ok (.invokevirtual 34, 3) := dz_at dqX4_nameOfLikeliest_p060 1 rfl
theorem dX4_nameOfLikeliest_4 : decode cX4_nameOfLikeliest 4 = .ok (.istore_n 1, 1) := dz_at dqX4_nameOfLikeliest_p060 2 rfl
theorem dX4_nameOfLikeliest_5 : decode cX4_nameOfLikeliest 5 = .ok (.bipush 100, 2) := dz_at dqX4_nameOfLikeliest_p060 3 rfl
theorem dX4_nameOfLikeliest_7 : decode cX4_nameOfLikeliest 7 = .ok (.iload_n 1, 1) := dz_at dqX4_nameOfLikeliest_p060 4 rfl
theorem dX4_nameOfLikeliest_8 : decode cX4_nameOfLikeliest 8 = .ok (.invokestatic 23, 3) := dz_at dqX4_nameOfLikeliest_p060 5 rfl
theorem dX4_nameOfLikeliest_11 : decode cX4_nameOfLikeliest 11 = .ok (.imul, 1) := dz_at dqX4_nameOfLikeliest_p060 6 rfl
theorem dX4_nameOfLikeliest_12 : decode cX4_nameOfLikeliest 12 = .ok (.iload_n 1, 1) := dz_at dqX4_nameOfLikeliest_p060 7 rfl
theorem dX4_nameOfLikeliest_13 : decode cX4_nameOfLikeliest 13 = .ok (.invokestatic 27, 3) := dz_at dqX4_nameOfLikeliest_p060 8 rfl
theorem dX4_nameOfLikeliest_16 : decode cX4_nameOfLikeliest 16 = .ok (.iadd, 1) := dz_at dqX4_nameOfLikeliest_p060 9 rfl
theorem dX4_nameOfLikeliest_17 : decode cX4_nameOfLikeliest 17 = .ok (.ireturn, 1) := dz_at dqX4_nameOfLikeliest_p060 10 rfl
set_option maxRecDepth 20000 in
theorem ggX4_agreementOfLikeliest_X4_likeliest : GoodIn wsX4_agreementOfLikeliest wsX4_likeliest := goodIn_r _ [6, 1, 7, 8] rfl (by decide +kernel)
set_option maxRecDepth 20000 in
theorem gX4_agreementOfLikeliest_X4_likeliest : GoodIn wsX4_agreementOfLikeliest (wsV RX4 34 RX4 yX4_likeliest wsX4_likeliest) := goodIn_app (goodIn_of _ (by decide +kernel)) ggX4_agreementOfLikeliest_X4_likeliest
set_option maxRecDepth 20000 in
theorem dqX4_agreementOfLikeliest_p060 : dz_rn 0 (cX4_agreementOfLikeliest.data.toList.drop 0) [(0, 4), (3, 0), (0, 4), (3, 1), (0, 10), (0, 12)] = some [(0, .aload_n 0, 1), (1, .getfield 11, 3), (4, .aload_n 0, 1), (5, .invokevirtual 34, 3), (8, .iaload, 1), (9, .ireturn, 1)] := by decide +kernel
theorem dX4_agreementOfLikeliest_0 : decode cX4_agreementOfLikeliest 0 = .ok (.aload_n 0, 1) := dz_at dqX4_agreementOfLikeliest_p060 0 rfl
theorem dX4_agreementOfLikeliest_1 : decode cX4_agreementOfLikeliest 1 = .ok (.getfield 11, 3) := dz_at dqX4_agreementOfLikeliest_p060 1 rfl
theorem dX4_agreementOfLikeliest_4 : decode cX4_agreementOfLikeliest 4 = .ok (.aload_n 0, 1) := dz_at dqX4_agreementOfLikeliest_p060 2 rfl
theorem dX4_agreementOfLikeliest_5 : decode cX4_agreementOfLikeliest 5 = .ok (.invokevirtual 34, 3) := dz_at dqX4_agreementOfLikeliest_p060 3 rfl
theorem dX4_agreementOfLikeliest_8 : decode cX4_agreementOfLikeliest 8 = .ok (.iaload, 1) := dz_at dqX4_agreementOfLikeliest_p060 4 rfl
theorem dX4_agreementOfLikeliest_9 : decode cX4_agreementOfLikeliest 9 = .ok (.ireturn, 1) := dz_at dqX4_agreementOfLikeliest_p060 5 rfl
set_option maxRecDepth 20000 in
theorem ggX4_dayThatParts_X4_tablesThatMayBe : GoodIn wsX4_dayThatParts wsX4_tablesThatMayBe := goodIn_r _ [5, 6, 7, 8, 4, 9, 10, 11, 29, 30] rfl (by decide +kernel)
set_option maxRecDepth 20000 in
theorem gX4_dayThatParts_X4_tablesThatMayBe : GoodIn wsX4_dayThatParts (wsV RX4 38 RX4 yX4_tablesThatMayBe wsX4_tablesThatMayBe) := goodIn_app (goodIn_of _ (by decide +kernel)) ggX4_dayThatParts_X4_tablesThatMayBe
set_option maxRecDepth 20000 in
theorem ggX4_dayThatParts_X4_unlikeness : GoodIn wsX4_dayThatParts wsX4_unlikeness := goodIn_r _ [15, 16, 17, 18, 19, 6, 7, 8, 4, 9, 10, 11, 20, 21, 22, 23, 24, 25, 26, 27, 28, 29, 30] rfl (by decide +kernel)
set_option maxRecDepth 20000 in
theorem gX4_dayThatParts_X4_unlikeness : GoodIn wsX4_dayThatParts (wsV RX4 41 RX4 yX4_unlikeness wsX4_unlikeness) := goodIn_app (goodIn_of _ (by decide +kernel)) ggX4_dayThatParts_X4_unlikeness
set_option maxRecDepth 20000 in
theorem dqX4_dayThatParts_p060 : dz_rn 0 (cX4_dayThatParts.data.toList.drop 0) [(0, 4), (3, 1), (4, 8), (0, 13), (0, 12), (0, 13), (0, 19), (2, 0), (0, 20), (0, 9), (0, 21), (0, 3), (2, 0), (4, 5)] = some [(0, .aload_n 0, 1), (1, .invokevirtual 38, 3), (4, .ifCond .ne 5, 3), (7, .iconst (-1), 1), (8, .ireturn, 1), (9, .iconst (-1), 1), (10, .istore_n 1, 1), (11, .bipush 82, 2), (13, .istore_n 2, 1), (14, .iconst 1, 1), (15, .istore_n 3, 1), (16, .iload_n 3, 1), (17, .bipush 60, 2), (19, .if_icmp .gt 27, 3)] := by decide +kernel
theorem dX4_dayThatParts_0 : decode cX4_dayThatParts 0 = .ok (.aload_n 0, 1) := dz_at dqX4_dayThatParts_p060 0 rfl
theorem dX4_dayThatParts_1 : decode cX4_dayThatParts 1 = .ok (.invokevirtual 38, 3) := dz_at dqX4_dayThatParts_p060 1 rfl
theorem dX4_dayThatParts_4 : decode cX4_dayThatParts 4 = .ok (.ifCond .ne 5, 3) := dz_at dqX4_dayThatParts_p060 2 rfl
theorem dX4_dayThatParts_7 : decode cX4_dayThatParts 7 = .ok (.iconst (-1), 1) := dz_at dqX4_dayThatParts_p060 3 rfl
theorem dX4_dayThatParts_8 : decode cX4_dayThatParts 8 = .ok (.ireturn, 1) := dz_at dqX4_dayThatParts_p060 4 rfl
theorem dX4_dayThatParts_9 : decode cX4_dayThatParts 9 = .ok (.iconst (-1), 1) := dz_at dqX4_dayThatParts_p060 5 rfl
theorem dX4_dayThatParts_10 : decode cX4_dayThatParts 10 = .ok (.istore_n 1, 1) := dz_at dqX4_dayThatParts_p060 6 rfl
theorem dX4_dayThatParts_11 : decode cX4_dayThatParts 11 = .ok (.bipush 82, 2) := dz_at dqX4_dayThatParts_p060 7 rfl
theorem dX4_dayThatParts_13 : decode cX4_dayThatParts 13 = .ok (.istore_n 2, 1) := dz_at dqX4_dayThatParts_p060 8 rfl
theorem dX4_dayThatParts_14 : decode cX4_dayThatParts 14 = .ok (.iconst 1, 1) := dz_at dqX4_dayThatParts_p060 9 rfl
theorem dX4_dayThatParts_15 : decode cX4_dayThatParts 15 = .ok (.istore_n 3, 1) := dz_at dqX4_dayThatParts_p060 10 rfl
theorem dX4_dayThatParts_16 : decode cX4_dayThatParts 16 = .ok (.iload_n 3, 1) := dz_at dqX4_dayThatParts_p060 11 rfl
theorem dX4_dayThatParts_17 : decode cX4_dayThatParts 17 = .ok (.bipush 60, 2) := dz_at dqX4_dayThatParts_p060 12 rfl
theorem dX4_dayThatParts_19 : decode cX4_dayThatParts 19 = .ok (.if_icmp .gt 27, 3) := dz_at dqX4_dayThatParts_p060 13 rfl
set_option maxRecDepth 20000 in
theorem dqX4_dayThatParts_p061 : dz_rn 22 (cX4_dayThatParts.data.toList.drop 22) [(0, 4), (0, 3), (3, 1), (1, 1), (1, 0), (0, 2), (4, 4), (1, 0), (0, 20), (0, 3), (0, 19), (5, 0), (4, 0), (0, 1)] = some [(22, .aload_n 0, 1), (23, .iload_n 3, 1), (24, .invokevirtual 41, 3), (27, .istore 4, 2), (29, .iload 4, 2), (31, .iload_n 2, 1), (32, .if_icmp .ge 8, 3), (35, .iload 4, 2), (37, .istore_n 2, 1), (38, .iload_n 3, 1), (39, .istore_n 1, 1), (40, .iinc 3 1, 3), (43, .goto (-27), 3), (46, .iload_n 1, 1)] := by decide +kernel
theorem dX4_dayThatParts_22 : decode cX4_dayThatParts 22 = .ok (.aload_n 0, 1) := dz_at dqX4_dayThatParts_p061 0 rfl
theorem dX4_dayThatParts_23 : decode cX4_dayThatParts 23 = .ok (.iload_n 3, 1) := dz_at dqX4_dayThatParts_p061 1 rfl
theorem dX4_dayThatParts_24 : decode cX4_dayThatParts 24 = .ok (.invokevirtual 41, 3) := dz_at dqX4_dayThatParts_p061 2 rfl
theorem dX4_dayThatParts_27 : decode cX4_dayThatParts 27 = .ok (.istore 4, 2) := dz_at dqX4_dayThatParts_p061 3 rfl
theorem dX4_dayThatParts_29 : decode cX4_dayThatParts 29 = .ok (.iload 4, 2) := dz_at dqX4_dayThatParts_p061 4 rfl
theorem dX4_dayThatParts_31 : decode cX4_dayThatParts 31 = .ok (.iload_n 2, 1) := dz_at dqX4_dayThatParts_p061 5 rfl
theorem dX4_dayThatParts_32 : decode cX4_dayThatParts 32 = .ok (.if_icmp .ge 8, 3) := dz_at dqX4_dayThatParts_p061 6 rfl
theorem dX4_dayThatParts_35 : decode cX4_dayThatParts 35 = .ok (.iload 4, 2) := dz_at dqX4_dayThatParts_p061 7 rfl
theorem dX4_dayThatParts_37 : decode cX4_dayThatParts 37 = .ok (.istore_n 2, 1) := dz_at dqX4_dayThatParts_p061 8 rfl
theorem dX4_dayThatParts_38 : decode cX4_dayThatParts 38 = .ok (.iload_n 3, 1) := dz_at dqX4_dayThatParts_p061 9 rfl
theorem dX4_dayThatParts_39 : decode cX4_dayThatParts 39 = .ok (.istore_n 1, 1) := dz_at dqX4_dayThatParts_p061 10 rfl
theorem dX4_dayThatParts_40 : decode cX4_dayThatParts 40 = .ok (.iinc 3 1, 3) := dz_at dqX4_dayThatParts_p061 11 rfl
theorem dX4_dayThatParts_43 : decode cX4_dayThatParts 43 = .ok (.goto (-27), 3) := dz_at dqX4_dayThatParts_p061 12 rfl
theorem dX4_dayThatParts_46 : decode cX4_dayThatParts 46 = .ok (.iload_n 1, 1) := dz_at dqX4_dayThatParts_p061 13 rfl
theorem dX4_dayThatParts_47 : decode cX4_dayThatParts 47 = .ok (.ireturn, 1) := by decide +kernel
set_option maxRecDepth 20000 in
theorem ggX4_unlikeness_X4_mayBe : GoodIn wsX4_unlikeness wsX4_mayBe := goodIn_r _ [9, 10, 11, 21, 22] rfl (by decide +kernel)
set_option maxRecDepth 20000 in
theorem gX4_unlikeness_X4_mayBe : GoodIn wsX4_unlikeness (wsV RX4 30 RX4 yX4_mayBe wsX4_mayBe) := goodIn_app (goodIn_of _ (by decide +kernel)) ggX4_unlikeness_X4_mayBe
set_option maxRecDepth 20000 in
theorem ggX4_unlikeness_X4_saysRight : GoodIn wsX4_unlikeness wsX4_saysRight := goodIn_r _ [14, 15, 16, 8, 17, 18, 19, 20] rfl (by decide +kernel)
set_option maxRecDepth 20000 in
theorem gX4_unlikeness_X4_saysRight : GoodIn wsX4_unlikeness (va_wsS RX4 15 yX4_saysRight wsX4_saysRight) := goodIn_app (goodIn_of _ (by decide +kernel)) ggX4_unlikeness_X4_saysRight
set_option maxRecDepth 20000 in
theorem dqX4_unlikeness_p060 : dz_rn 0 (cX4_unlikeness.data.toList.drop 0) [(0, 8), (0, 20), (0, 8), (0, 21), (0, 3), (2, 0), (4, 4), (0, 4), (0, 3), (3, 1), (4, 7), (0, 2), (0, 3), (0, 1)] = some [(0, .iconst 0, 1), (1, .istore_n 2, 1), (2, .iconst 0, 1), (3, .istore_n 3, 1), (4, .iload_n 3, 1), (5, .bipush 81, 2), (7, .if_icmp .ge 33, 3), (10, .aload_n 0, 1), (11, .iload_n 3, 1), (12, .invokevirtual 30, 3), (15, .ifCond .eq 19, 3), (18, .iload_n 2, 1), (19, .iload_n 3, 1), (20, .iload_n 1, 1)] := by decide +kernel
theorem dX4_unlikeness_0 : decode cX4_unlikeness 0 = .ok (.iconst 0, 1) := dz_at dqX4_unlikeness_p060 0 rfl
theorem dX4_unlikeness_1 : decode cX4_unlikeness 1 = .ok (.istore_n 2, 1) := dz_at dqX4_unlikeness_p060 1 rfl
theorem dX4_unlikeness_2 : decode cX4_unlikeness 2 = .ok (.iconst 0, 1) := dz_at dqX4_unlikeness_p060 2 rfl
theorem dX4_unlikeness_3 : decode cX4_unlikeness 3 = .ok (.istore_n 3, 1) := dz_at dqX4_unlikeness_p060 3 rfl
theorem dX4_unlikeness_4 : decode cX4_unlikeness 4 = .ok (.iload_n 3, 1) := dz_at dqX4_unlikeness_p060 4 rfl
theorem dX4_unlikeness_5 : decode cX4_unlikeness 5 = .ok (.bipush 81, 2) := dz_at dqX4_unlikeness_p060 5 rfl
theorem dX4_unlikeness_7 : decode cX4_unlikeness 7 = .ok (.if_icmp .ge 33, 3) := dz_at dqX4_unlikeness_p060 6 rfl
theorem dX4_unlikeness_10 : decode cX4_unlikeness 10 = .ok (.aload_n 0, 1) := dz_at dqX4_unlikeness_p060 7 rfl
theorem dX4_unlikeness_11 : decode cX4_unlikeness 11 = .ok (.iload_n 3, 1) := dz_at dqX4_unlikeness_p060 8 rfl
theorem dX4_unlikeness_12 : decode cX4_unlikeness 12 = .ok (.invokevirtual 30, 3) := dz_at dqX4_unlikeness_p060 9 rfl
theorem dX4_unlikeness_15 : decode cX4_unlikeness 15 = .ok (.ifCond .eq 19, 3) := dz_at dqX4_unlikeness_p060 10 rfl
theorem dX4_unlikeness_18 : decode cX4_unlikeness 18 = .ok (.iload_n 2, 1) := dz_at dqX4_unlikeness_p060 11 rfl
theorem dX4_unlikeness_19 : decode cX4_unlikeness 19 = .ok (.iload_n 3, 1) := dz_at dqX4_unlikeness_p060 12 rfl
theorem dX4_unlikeness_20 : decode cX4_unlikeness 20 = .ok (.iload_n 1, 1) := dz_at dqX4_unlikeness_p060 13 rfl
set_option maxRecDepth 20000 in
theorem dqX4_unlikeness_p061 : dz_rn 21 (cX4_unlikeness.data.toList.drop 21) [(3, 2), (4, 7), (0, 9), (4, 0), (0, 13), (0, 11), (0, 20), (5, 0), (4, 0), (0, 2), (3, 2), (0, 12)] = some [(21, .invokestatic 15, 3), (24, .ifCond .eq 7, 3), (27, .iconst 1, 1), (28, .goto 4, 3), (31, .iconst (-1), 1), (32, .iadd, 1), (33, .istore_n 2, 1), (34, .iinc 3 1, 3), (37, .goto (-33), 3), (40, .iload_n 2, 1), (41, .invokestatic 44, 3), (44, .ireturn, 1)] := by decide +kernel
theorem dX4_unlikeness_21 : decode cX4_unlikeness 21 = .ok (.invokestatic 15, 3) := dz_at dqX4_unlikeness_p061 0 rfl
theorem dX4_unlikeness_24 : decode cX4_unlikeness 24 = .ok (.ifCond .eq 7, 3) := dz_at dqX4_unlikeness_p061 1 rfl
theorem dX4_unlikeness_27 : decode cX4_unlikeness 27 = .ok (.iconst 1, 1) := dz_at dqX4_unlikeness_p061 2 rfl
theorem dX4_unlikeness_28 : decode cX4_unlikeness 28 = .ok (.goto 4, 3) := dz_at dqX4_unlikeness_p061 3 rfl
theorem dX4_unlikeness_31 : decode cX4_unlikeness 31 = .ok (.iconst (-1), 1) := dz_at dqX4_unlikeness_p061 4 rfl
theorem dX4_unlikeness_32 : decode cX4_unlikeness 32 = .ok (.iadd, 1) := dz_at dqX4_unlikeness_p061 5 rfl
theorem dX4_unlikeness_33 : decode cX4_unlikeness 33 = .ok (.istore_n 2, 1) := dz_at dqX4_unlikeness_p061 6 rfl
theorem dX4_unlikeness_34 : decode cX4_unlikeness 34 = .ok (.iinc 3 1, 3) := dz_at dqX4_unlikeness_p061 7 rfl
theorem dX4_unlikeness_37 : decode cX4_unlikeness 37 = .ok (.goto (-33), 3) := dz_at dqX4_unlikeness_p061 8 rfl
theorem dX4_unlikeness_40 : decode cX4_unlikeness 40 = .ok (.iload_n 2, 1) := dz_at dqX4_unlikeness_p061 9 rfl
theorem dX4_unlikeness_41 : decode cX4_unlikeness 41 = .ok (.invokestatic 44, 3) := dz_at dqX4_unlikeness_p061 10 rfl
theorem dX4_unlikeness_44 : decode cX4_unlikeness 44 = .ok (.ireturn, 1) := dz_at dqX4_unlikeness_p061 11 rfl
set_option maxHeartbeats 4000000 in
set_option maxRecDepth 100000 in
theorem k_X5_forget (l : Launch) (dC : Nat → ClassId) (dI : Nat → Nat → Nat) (cI cZ cQ : ClassId) (rb0 : Nat) (rb1 : Nat) (rb2 : Nat) (mos : Nat → Int32) (wev : Nat → Int32) (aga : Int32) (apa : Int32) (lin : Int32) (sz : Nat)  : KV l yX5_forget wsX5_forget { frames := 1, cells := 0, slots := 0, locals := 23 } (dC, dI) (TY cI cZ cQ) (wRul cI cZ cQ rb0 rb1 rb2 mos wev aga apa lin) [.ref rb0] sz 0 0 (fun (u : US) => (∀ j, j < 8 → (u.1 0) j = -1) ∧ (∀ j, j < 8 → (u.1 1) j = -1) ∧ ((u.1 2 0) = -1) ∧ ((u.1 3 0) = -1) ∧ ((u.1 4 0) = 0)) (fun u : US => (wRul cI cZ cQ rb0 rb1 rb2 (u.1 0) (u.1 1) (u.1 2 0) (u.1 3 0) (u.1 4 0))) := by
  refine Met.ofW (cc := cX5_forget) (maxL := 1) (ret := none) (by decide) rfl ?_
  intro p e s m args below meth c s₁ B hml hv
  obtain ⟨rfl, hsz, hP, hK, hD0, hN⟩ := hv
  have hx := B.exec
  have hb := B.bytes
  have hr := B.returns
  have hts := atoms_spec (ws := wsX5_forget) B.pre
  have hown : s.vm.findClass RX5 = some m.cls := findClass_of_methodNamed B.named
  have hlocks := B.notSynchronized
  have lf9 := hts (.fieldLink RX5 9 "PalaceOfRooms$RuleBook" "mostIn" "[I") (List.mem_cons_of_mem _ (List.mem_append_left _ (List.mem_of_getElem? (i := 0) rfl)))
  have inX5 : ∀ w ∈ wsX50, w ∈ wsX5_forget := fun w h => List.mem_cons_of_mem _ (List.mem_append_right _ h)
  have lf15 := hts (.fieldLink RX5 15 "PalaceOfRooms$RuleBook" "walkEvery" "[I") (List.mem_cons_of_mem _ (List.mem_append_left _ (List.mem_of_getElem? (i := 1) rfl)))
  have lf27 := hts (.fieldLink RX5 27 "PalaceOfRooms$RuleBook" "again" "I") (List.mem_cons_of_mem _ (List.mem_append_left _ (List.mem_of_getElem? (i := 2) rfl)))
  have lf31 := hts (.fieldLink RX5 31 "PalaceOfRooms$RuleBook" "apart" "I") (List.mem_cons_of_mem _ (List.mem_append_left _ (List.mem_of_getElem? (i := 3) rfl)))
  have lf34 := hts (.fieldLink RX5 34 "PalaceOfRooms$RuleBook" "lines" "I") (List.mem_cons_of_mem _ (List.mem_append_left _ (List.mem_of_getElem? (i := 4) rfl)))
  subst hsz
  have hD := hD0.self (sz := s.heap.size)
  generalize hAe : va_A (wRul cI cZ cQ rb0 rb1 rb2 mos wev aga apa lin) s.heap.size = A at hD ⊢
  have hA : ∀ q : Nat, s.heap.size ≤ q → A q := fun q h => by rw [← hAe]; exact Or.inr h
  have hS : va_S A s.heap s.heap [] := va_S.rf
  have hl := lv_entry ([.ref rb0]) (n := 1) (Nat.le_of_ble_eq_true rfl)
  rw [lg_entry_eq]
  generalize (lg_sl ([.ref rb0]) ++ List.replicate (1 - (lg_sl ([.ref rb0])).length) Slot.unset).toArray = ls at hl ⊢
  have hl : lv_has ls 1 [(0, .ref rb0)] := hl
  refine lv_aload_n hx hb dX5_forget_0 rfl (lv_at hl 0 rfl) ?_
  refine va_get (D := (dC, dI)) (ci := 5) (v := .ref rb1) (C := RX5) (T := TX5) (N := 5) hx hb hts inX5 hown hK hP 0 rfl rfl 0 (by decide) lf9 (fun _ h9 => h9) rfl dX5_forget_1 ?_
  refine lv_iconst (v := (-1)) hx hb dX5_forget_4 (by decide) ?_
  refine wvS (As := [.ref rb1, .int (-1)]) (rest := []) (wr := [(rb0, .inr (5, [.ref rb1, .ref rb2, .int aga, .int apa, .int lin])), (rb2, .inl (cI, 8, .inl wev))]) (w2 := (fun u : US => (wRul cI cZ cQ rb0 rb1 rb2 (u.1 0) wev aga apa lin))) ⟨hx, hb, hml, hown, hts⟩ (k_J7_fill_53178 l dC dI cI cZ cQ rb1 8 mos _ ((-1) : Int32) (by omega)) (va_cwS 2 hts gX5_forget_J7_fill_53178 rfl rfl rfl (by decide +kernel) ⟨Nat.le_of_ble_eq_true rfl, Nat.le_of_ble_eq_true rfl⟩) hP hD hS hA hK hN [1] [0, 2] [0, 2, 1] rfl rfl (by decide) (by decide) (by decide) (fun _ => rfl) (by decide) rfl hl.1 rfl (Nat.le_of_ble_eq_true rfl) dX5_forget_5 ⟨Nat.le_of_ble_eq_true rfl, Nat.le_of_ble_eq_true rfl⟩ (fun u3 H locs h2 hP hD hS => ?_)
  obtain ⟨mos_c4, emos_c4⟩ : ∃ f : Nat → Int32, f = (u3.1 0) := ⟨_, rfl⟩
  have hP : va_P (dC, dI) vwCl (wRul cI cZ cQ rb0 rb1 rb2 mos_c4 wev aga apa lin) H := by rw [emos_c4]; exact hP
  have hD : va_D A (wRul cI cZ cQ rb0 rb1 rb2 mos_c4 wev aga apa lin) := by rw [emos_c4]; exact hD
  have h2 : (∀ j, j < 8 → mos_c4 j = ((-1) : Int32)) := by (try rw [emos_c4]); exact h2
  have h2_0 := h2
  refine lv_aload_n hx hb dX5_forget_8 rfl (lv_at hl 0 rfl) ?_
  refine va_get (D := (dC, dI)) (ci := 5) (v := .ref rb2) (C := RX5) (T := TX5) (N := 5) hx hb hts inX5 hown hK hP 0 rfl rfl 1 (by decide) lf15 (fun _ h9 => h9) rfl dX5_forget_9 ?_
  refine lv_iconst (v := (-1)) hx hb dX5_forget_12 (by decide) ?_
  refine wvS (As := [.ref rb2, .int (-1)]) (rest := []) (wr := [(rb0, .inr (5, [.ref rb1, .ref rb2, .int aga, .int apa, .int lin])), (rb1, .inl (cI, 8, .inl mos_c4))]) (w2 := (fun u : US => (wRul cI cZ cQ rb0 rb1 rb2 mos_c4 (u.1 0) aga apa lin))) ⟨hx, hb, hml, hown, hts⟩ (k_J7_fill_53178 l dC dI cI cZ cQ rb2 8 wev _ ((-1) : Int32) (by omega)) (va_cwS 2 hts gX5_forget_J7_fill_53178 rfl rfl rfl (by decide +kernel) ⟨Nat.le_of_ble_eq_true rfl, Nat.le_of_ble_eq_true rfl⟩) hP hD hS hA hK hN [2] [0, 1] [0, 1, 2] rfl rfl (by decide) (by decide) (by decide) (fun _ => rfl) (by decide) rfl hl.1 rfl (Nat.le_of_ble_eq_true rfl) dX5_forget_13 ⟨Nat.le_of_ble_eq_true rfl, Nat.le_of_ble_eq_true rfl⟩ (fun u7 H locs h6 hP hD hS => ?_)
  obtain ⟨wev_c8, ewev_c8⟩ : ∃ f : Nat → Int32, f = (u7.1 0) := ⟨_, rfl⟩
  have hP : va_P (dC, dI) vwCl (wRul cI cZ cQ rb0 rb1 rb2 mos_c4 wev_c8 aga apa lin) H := by rw [ewev_c8]; exact hP
  have hD : va_D A (wRul cI cZ cQ rb0 rb1 rb2 mos_c4 wev_c8 aga apa lin) := by rw [ewev_c8]; exact hD
  have h6 : (∀ j, j < 8 → wev_c8 j = ((-1) : Int32)) := by (try rw [ewev_c8]); exact h6
  have h6_0 := h6
  refine lv_aload_n hx hb dX5_forget_16 rfl (lv_at hl 0 rfl) ?_
  refine lv_iconst (v := (-1)) hx hb dX5_forget_17 (by decide) ?_
  refine va_put (D := (dC, dI)) (ci := 5) (v := .int (-1)) (ty := .int) (C := RX5) (T := TX5) (N := 5) hx hb hts inX5 tyX5 tyX5_ok nmX5 hown hK hP hD hS 0 rfl rfl 2 (by decide) lf27 (fun _ h9 => h9) rfl (by decide +kernel) rfl rfl (Nat.le_of_ble_eq_true rfl) dX5_forget_18 (fun H locs hP hD hS => ?_)
  have hP : va_P (dC, dI) vwCl (wRul cI cZ cQ rb0 rb1 rb2 mos_c4 wev_c8 (-1) apa lin) H := hP
  have hD : va_D A (wRul cI cZ cQ rb0 rb1 rb2 mos_c4 wev_c8 (-1) apa lin) := hD
  refine lv_aload_n hx hb dX5_forget_21 rfl (lv_at hl 0 rfl) ?_
  refine lv_iconst (v := (-1)) hx hb dX5_forget_22 (by decide) ?_
  refine va_put (D := (dC, dI)) (ci := 5) (v := .int (-1)) (ty := .int) (C := RX5) (T := TX5) (N := 5) hx hb hts inX5 tyX5 tyX5_ok nmX5 hown hK hP hD hS 0 rfl rfl 3 (by decide) lf31 (fun _ h9 => h9) rfl (by decide +kernel) rfl rfl (Nat.le_of_ble_eq_true rfl) dX5_forget_23 (fun H locs hP hD hS => ?_)
  have hP : va_P (dC, dI) vwCl (wRul cI cZ cQ rb0 rb1 rb2 mos_c4 wev_c8 (-1) (-1) lin) H := hP
  have hD : va_D A (wRul cI cZ cQ rb0 rb1 rb2 mos_c4 wev_c8 (-1) (-1) lin) := hD
  refine lv_aload_n hx hb dX5_forget_26 rfl (lv_at hl 0 rfl) ?_
  refine lv_iconst (v := 0) hx hb dX5_forget_27 (by decide) ?_
  refine va_put (D := (dC, dI)) (ci := 5) (v := .int 0) (ty := .int) (C := RX5) (T := TX5) (N := 5) hx hb hts inX5 tyX5 tyX5_ok nmX5 hown hK hP hD hS 0 rfl rfl 4 (by decide) lf34 (fun _ h9 => h9) rfl (by decide +kernel) rfl rfl (Nat.le_of_ble_eq_true rfl) dX5_forget_28 (fun H locs hP hD hS => ?_)
  have hP : va_P (dC, dI) vwCl (wRul cI cZ cQ rb0 rb1 rb2 mos_c4 wev_c8 (-1) (-1) 0) H := hP
  have hD : va_D A (wRul cI cZ cQ rb0 rb1 rb2 mos_c4 wev_c8 (-1) (-1) 0) := hD
  exact W.vret hx hb hr (fun t ht hW => ⟨⟨(uS [mos_c4, wev_c8, (fun _ => (-1)), (fun _ => (-1)), (fun _ => 0)] 0 (fun _ => 0)), rfl, ⟨(show ∀ j, j < 8 → mos_c4 j = -1 from by assumption), (show ∀ j, j < 8 → wev_c8 j = -1 from by assumption), (show (-1) = -1 from by rfl), (show (-1) = -1 from by rfl), (show 0 = 0 from by rfl)⟩, by rw [ht]; exact hP, hD⟩, hS.F ht⟩) hS.2.2 dX5_forget_31
