set_option maxRecDepth 20000 in
theorem ggX5_init_X5_forget : GoodIn wsX5_init wsX5_forget := goodIn_r _ [11, 5, 6, 12, 13, 14, 15, 16, 17, 18, 19, 20, 21, 22, 23] (by decide +kernel) (by decide +kernel)
set_option maxRecDepth 20000 in
theorem gX5_init_X5_forget : GoodIn wsX5_init (wsV RX5 18 RX5 yX5_forget wsX5_forget) := goodIn_app (goodIn_of _ (by decide +kernel)) ggX5_init_X5_forget
theorem dX5_init_0 : decode cX5_init 0 = .ok (.aload_n 0, 1) := by decide +kernel
theorem dX5_init_1 : decode cX5_init 1 = .ok (.invokespecial 3, 3) := by decide +kernel
theorem dX5_init_4 : decode cX5_init 4 = .ok (.aload_n 0, 1) := by decide +kernel
theorem dX5_init_5 : decode cX5_init 5 = .ok (.bipush 8, 2) := by decide +kernel
theorem dX5_init_7 : decode cX5_init 7 = .ok (.newarray .int, 2) := by decide +kernel
theorem dX5_init_9 : decode cX5_init 9 = .ok (.putfield 9, 3) := by decide +kernel
theorem dX5_init_12 : decode cX5_init 12 = .ok (.aload_n 0, 1) := by decide +kernel
theorem dX5_init_13 : decode cX5_init 13 = .ok (.bipush 8, 2) := by decide +kernel
theorem dX5_init_15 : decode cX5_init 15 = .ok (.newarray .int, 2) := by decide +kernel
theorem dX5_init_17 : decode cX5_init 17 = .ok (.putfield 15, 3) := by decide +kernel
theorem dX5_init_20 : decode cX5_init 20 = .ok (.aload_n 0, 1) := by decide +kernel
theorem dX5_init_21 : decode cX5_init 21 = .ok (.invokevirtual 18, 3) := by decide +kernel
theorem dX5_init_24 : decode cX5_init 24 = .ok (.return_, 1) := by decide +kernel
set_option maxRecDepth 20000 in
theorem ggX5_forget_J7_fill_53178 : GoodIn wsX5_forget wsJ7_fill_53178 := goodIn_r _ [9] (by decide +kernel) (by decide +kernel)
set_option maxRecDepth 20000 in
theorem gX5_forget_J7_fill_53178 : GoodIn wsX5_forget (va_wsS RX5 21 yJ7_fill_53178 wsJ7_fill_53178) := goodIn_app (goodIn_of _ (by decide +kernel)) ggX5_forget_J7_fill_53178
theorem dX5_forget_0 : decode cX5_forget 0 = .ok (.aload_n 0, 1) := by decide +kernel
theorem dX5_forget_1 : decode cX5_forget 1 = .ok (.getfield 9, 3) := by decide +kernel
theorem dX5_forget_4 : decode cX5_forget 4 = .ok (.iconst (-1), 1) := by decide +kernel
theorem dX5_forget_5 : decode cX5_forget 5 = .ok (.invokestatic 21, 3) := by decide +kernel
theorem dX5_forget_8 : decode cX5_forget 8 = .ok (.aload_n 0, 1) := by decide +kernel
theorem dX5_forget_9 : decode cX5_forget 9 = .ok (.getfield 15, 3) := by decide +kernel
theorem dX5_forget_12 : decode cX5_forget 12 = .ok (.iconst (-1), 1) := by decide +kernel
theorem dX5_forget_13 : decode cX5_forget 13 = .ok (.invokestatic 21, 3) := by decide +kernel
theorem dX5_forget_16 : decode cX5_forget 16 = .ok (.aload_n 0, 1) := by decide +kernel
theorem dX5_forget_17 : decode cX5_forget 17 = .ok (.iconst (-1), 1) := by decide +kernel
theorem dX5_forget_18 : decode cX5_forget 18 = .ok (.putfield 27, 3) := by decide +kernel
theorem dX5_forget_21 : decode cX5_forget 21 = .ok (.aload_n 0, 1) := by decide +kernel
theorem dX5_forget_22 : decode cX5_forget 22 = .ok (.iconst (-1), 1) := by decide +kernel
theorem dX5_forget_23 : decode cX5_forget 23 = .ok (.putfield 31, 3) := by decide +kernel
theorem dX5_forget_26 : decode cX5_forget 26 = .ok (.aload_n 0, 1) := by decide +kernel
theorem dX5_forget_27 : decode cX5_forget 27 = .ok (.iconst 0, 1) := by decide +kernel
theorem dX5_forget_28 : decode cX5_forget 28 = .ok (.putfield 34, 3) := by decide +kernel
theorem dX5_forget_31 : decode cX5_forget 31 = .ok (.return_, 1) := by decide +kernel
theorem dX5_cornersToUse_0 : decode cX5_cornersToUse 0 = .ok (.aload_n 0, 1) := by decide +kernel
theorem dX5_cornersToUse_1 : decode cX5_cornersToUse 1 = .ok (.getfield 9, 3) := by decide +kernel
theorem dX5_cornersToUse_4 : decode cX5_cornersToUse 4 = .ok (.iload_n 1, 1) := by decide +kernel
theorem dX5_cornersToUse_5 : decode cX5_cornersToUse 5 = .ok (.iaload, 1) := by decide +kernel
theorem dX5_cornersToUse_6 : decode cX5_cornersToUse 6 = .ok (.iconst (-1), 1) := by decide +kernel
theorem dX5_cornersToUse_7 : decode cX5_cornersToUse 7 = .ok (.if_icmp .ne 8, 3) := by decide +kernel
theorem dX5_cornersToUse_10 : decode cX5_cornersToUse 10 = .ok (.bipush 6, 2) := by decide +kernel
theorem dX5_cornersToUse_12 : decode cX5_cornersToUse 12 = .ok (.goto 14, 3) := by decide +kernel
theorem dX5_cornersToUse_15 : decode cX5_cornersToUse 15 = .ok (.aload_n 0, 1) := by decide +kernel
theorem dX5_cornersToUse_16 : decode cX5_cornersToUse 16 = .ok (.getfield 9, 3) := by decide +kernel
theorem dX5_cornersToUse_19 : decode cX5_cornersToUse 19 = .ok (.iload_n 1, 1) := by decide +kernel
theorem dX5_cornersToUse_20 : decode cX5_cornersToUse 20 = .ok (.iaload, 1) := by decide +kernel
theorem dX5_cornersToUse_21 : decode cX5_cornersToUse 21 = .ok (.bipush 6, 2) := by decide +kernel
theorem dX5_cornersToUse_23 : decode cX5_cornersToUse 23 = .ok (.invokestatic 37, 3) := by decide +kernel
theorem dX5_cornersToUse_26 : decode cX5_cornersToUse 26 = .ok (.ireturn, 1) := by decide +kernel
theorem dX4_init_0 : decode cX4_init 0 = .ok (.aload_n 0, 1) := by decide +kernel
theorem dX4_init_1 : decode cX4_init 1 = .ok (.invokespecial 5, 3) := by decide +kernel
theorem dX4_init_4 : decode cX4_init 4 = .ok (.aload_n 0, 1) := by decide +kernel
theorem dX4_init_5 : decode cX4_init 5 = .ok (.bipush 81, 2) := by decide +kernel
theorem dX4_init_7 : decode cX4_init 7 = .ok (.newarray .int, 2) := by decide +kernel
theorem dX4_init_9 : decode cX4_init 9 = .ok (.putfield 11, 3) := by decide +kernel
theorem dX4_init_12 : decode cX4_init 12 = .ok (.return_, 1) := by decide +kernel
set_option maxRecDepth 20000 in
theorem ggX4_note_X4_saysRight : GoodIn wsX4_note wsX4_saysRight := goodIn_r _ [6, 7, 8, 5, 9, 10, 11, 12] (by decide +kernel) (by decide +kernel)
set_option maxRecDepth 20000 in
theorem gX4_note_X4_saysRight : GoodIn wsX4_note (va_wsS RX4 15 yX4_saysRight wsX4_saysRight) := goodIn_app (goodIn_of _ (by decide +kernel)) ggX4_note_X4_saysRight
theorem dX4_note_0 : decode cX4_note 0 = .ok (.iconst 0, 1) := by decide +kernel
theorem dX4_note_1 : decode cX4_note 1 = .ok (.istore_n 3, 1) := by decide +kernel
theorem dX4_note_2 : decode cX4_note 2 = .ok (.iload_n 3, 1) := by decide +kernel
theorem dX4_note_3 : decode cX4_note 3 = .ok (.bipush 81, 2) := by decide +kernel
theorem dX4_note_5 : decode cX4_note 5 = .ok (.if_icmp .ge 28, 3) := by decide +kernel
theorem dX4_note_8 : decode cX4_note 8 = .ok (.iload_n 3, 1) := by decide +kernel
theorem dX4_note_9 : decode cX4_note 9 = .ok (.iload_n 1, 1) := by decide +kernel
theorem dX4_note_10 : decode cX4_note 10 = .ok (.invokestatic 15, 3) := by decide +kernel
theorem dX4_note_13 : decode cX4_note 13 = .ok (.iload_n 2, 1) := by decide +kernel
theorem dX4_note_14 : decode cX4_note 14 = .ok (.if_icmp .ne 13, 3) := by decide +kernel
theorem dX4_note_17 : decode cX4_note 17 = .ok (.aload_n 0, 1) := by decide +kernel
theorem dX4_note_18 : decode cX4_note 18 = .ok (.getfield 11, 3) := by decide +kernel
theorem dX4_note_21 : decode cX4_note 21 = .ok (.iload_n 3, 1) := by decide +kernel
theorem dX4_note_22 : decode cX4_note 22 = .ok (.dup2, 1) := by decide +kernel
theorem dX4_note_23 : decode cX4_note 23 = .ok (.iaload, 1) := by decide +kernel
theorem dX4_note_24 : decode cX4_note 24 = .ok (.iconst 1, 1) := by decide +kernel
theorem dX4_note_25 : decode cX4_note 25 = .ok (.iadd, 1) := by decide +kernel
theorem dX4_note_26 : decode cX4_note 26 = .ok (.iastore, 1) := by decide +kernel
theorem dX4_note_27 : decode cX4_note 27 = .ok (.iinc 3 1, 3) := by decide +kernel
theorem dX4_note_30 : decode cX4_note 30 = .ok (.goto (-28), 3) := by decide +kernel
theorem dX4_note_33 : decode cX4_note 33 = .ok (.aload_n 0, 1) := by decide +kernel
theorem dX4_note_34 : decode cX4_note 34 = .ok (.dup, 1) := by decide +kernel
theorem dX4_note_35 : decode cX4_note 35 = .ok (.getfield 19, 3) := by decide +kernel
theorem dX4_note_38 : decode cX4_note 38 = .ok (.iconst 1, 1) := by decide +kernel
theorem dX4_note_39 : decode cX4_note 39 = .ok (.iadd, 1) := by decide +kernel
theorem dX4_note_40 : decode cX4_note 40 = .ok (.putfield 19, 3) := by decide +kernel
theorem dX4_note_43 : decode cX4_note 43 = .ok (.return_, 1) := by decide +kernel
theorem dX4_lossOf_0 : decode cX4_lossOf 0 = .ok (.iload_n 0, 1) := by decide +kernel
theorem dX4_lossOf_1 : decode cX4_lossOf 1 = .ok (.bipush 9, 2) := by decide +kernel
theorem dX4_lossOf_3 : decode cX4_lossOf 3 = .ok (.idiv, 1) := by decide +kernel
theorem dX4_lossOf_4 : decode cX4_lossOf 4 = .ok (.iconst 1, 1) := by decide +kernel
theorem dX4_lossOf_5 : decode cX4_lossOf 5 = .ok (.iadd, 1) := by decide +kernel
theorem dX4_lossOf_6 : decode cX4_lossOf 6 = .ok (.ireturn, 1) := by decide +kernel
theorem dX4_limitOf_0 : decode cX4_limitOf 0 = .ok (.iload_n 0, 1) := by decide +kernel
theorem dX4_limitOf_1 : decode cX4_limitOf 1 = .ok (.bipush 9, 2) := by decide +kernel
theorem dX4_limitOf_3 : decode cX4_limitOf 3 = .ok (.irem, 1) := by decide +kernel
theorem dX4_limitOf_4 : decode cX4_limitOf 4 = .ok (.iconst 1, 1) := by decide +kernel
theorem dX4_limitOf_5 : decode cX4_limitOf 5 = .ok (.iadd, 1) := by decide +kernel
theorem dX4_limitOf_6 : decode cX4_limitOf 6 = .ok (.bipush 10, 2) := by decide +kernel
theorem dX4_limitOf_8 : decode cX4_limitOf 8 = .ok (.imul, 1) := by decide +kernel
theorem dX4_limitOf_9 : decode cX4_limitOf 9 = .ok (.ireturn, 1) := by decide +kernel
set_option maxRecDepth 20000 in
theorem ggX4_saysRight_X4_lossOf : GoodIn wsX4_saysRight wsX4_lossOf := goodIn_r _ [4] (by decide +kernel) (by decide +kernel)
set_option maxRecDepth 20000 in
theorem gX4_saysRight_X4_lossOf : GoodIn wsX4_saysRight (va_wsS RX4 23 yX4_lossOf wsX4_lossOf) := goodIn_app (goodIn_of _ (by decide +kernel)) ggX4_saysRight_X4_lossOf
set_option maxRecDepth 20000 in
theorem ggX4_saysRight_X4_limitOf : GoodIn wsX4_saysRight wsX4_limitOf := goodIn_r _ [7] (by decide +kernel) (by decide +kernel)
set_option maxRecDepth 20000 in
theorem gX4_saysRight_X4_limitOf : GoodIn wsX4_saysRight (va_wsS RX4 27 yX4_limitOf wsX4_limitOf) := goodIn_app (goodIn_of _ (by decide +kernel)) ggX4_saysRight_X4_limitOf
theorem dX4_saysRight_0 : decode cX4_saysRight 0 = .ok (.bipush 100, 2) := by decide +kernel
theorem dX4_saysRight_2 : decode cX4_saysRight 2 = .ok (.iload_n 0, 1) := by decide +kernel
theorem dX4_saysRight_3 : decode cX4_saysRight 3 = .ok (.invokestatic 23, 3) := by decide +kernel
theorem dX4_saysRight_6 : decode cX4_saysRight 6 = .ok (.iload_n 1, 1) := by decide +kernel
theorem dX4_saysRight_7 : decode cX4_saysRight 7 = .ok (.imul, 1) := by decide +kernel
theorem dX4_saysRight_8 : decode cX4_saysRight 8 = .ok (.isub, 1) := by decide +kernel
theorem dX4_saysRight_9 : decode cX4_saysRight 9 = .ok (.iload_n 0, 1) := by decide +kernel
theorem dX4_saysRight_10 : decode cX4_saysRight 10 = .ok (.invokestatic 27, 3) := by decide +kernel
theorem dX4_saysRight_13 : decode cX4_saysRight 13 = .ok (.if_icmp .lt 7, 3) := by decide +kernel
theorem dX4_saysRight_16 : decode cX4_saysRight 16 = .ok (.iconst 1, 1) := by decide +kernel
theorem dX4_saysRight_17 : decode cX4_saysRight 17 = .ok (.goto 4, 3) := by decide +kernel
theorem dX4_saysRight_20 : decode cX4_saysRight 20 = .ok (.iconst 0, 1) := by decide +kernel
theorem dX4_saysRight_21 : decode cX4_saysRight 21 = .ok (.ireturn, 1) := by decide +kernel
theorem dX4_mayBe_0 : decode cX4_mayBe 0 = .ok (.aload_n 0, 1) := by decide +kernel
theorem dX4_mayBe_1 : decode cX4_mayBe 1 = .ok (.getfield 11, 3) := by decide +kernel
theorem dX4_mayBe_4 : decode cX4_mayBe 4 = .ok (.iload_n 1, 1) := by decide +kernel
theorem dX4_mayBe_5 : decode cX4_mayBe 5 = .ok (.iaload, 1) := by decide +kernel
theorem dX4_mayBe_6 : decode cX4_mayBe 6 = .ok (.aload_n 0, 1) := by decide +kernel
theorem dX4_mayBe_7 : decode cX4_mayBe 7 = .ok (.getfield 19, 3) := by decide +kernel
theorem dX4_mayBe_10 : decode cX4_mayBe 10 = .ok (.if_icmp .ne 7, 3) := by decide +kernel
theorem dX4_mayBe_13 : decode cX4_mayBe 13 = .ok (.iconst 1, 1) := by decide +kernel
theorem dX4_mayBe_14 : decode cX4_mayBe 14 = .ok (.goto 4, 3) := by decide +kernel
theorem dX4_mayBe_17 : decode cX4_mayBe 17 = .ok (.iconst 0, 1) := by decide +kernel
theorem dX4_mayBe_18 : decode cX4_mayBe 18 = .ok (.ireturn, 1) := by decide +kernel
set_option maxRecDepth 20000 in
theorem ggX4_tablesThatMayBe_X4_mayBe : GoodIn wsX4_tablesThatMayBe wsX4_mayBe := goodIn_r _ [5, 6, 7, 8, 9] (by decide +kernel) (by decide +kernel)
set_option maxRecDepth 20000 in
theorem gX4_tablesThatMayBe_X4_mayBe : GoodIn wsX4_tablesThatMayBe (wsV RX4 30 RX4 yX4_mayBe wsX4_mayBe) := goodIn_app (goodIn_of _ (by decide +kernel)) ggX4_tablesThatMayBe_X4_mayBe
theorem dX4_tablesThatMayBe_0 : decode cX4_tablesThatMayBe 0 = .ok (.iconst 0, 1) := by decide +kernel
theorem dX4_tablesThatMayBe_1 : decode cX4_tablesThatMayBe 1 = .ok (.istore_n 1, 1) := by decide +kernel
theorem dX4_tablesThatMayBe_2 : decode cX4_tablesThatMayBe 2 = .ok (.iconst 0, 1) := by decide +kernel
theorem dX4_tablesThatMayBe_3 : decode cX4_tablesThatMayBe 3 = .ok (.istore_n 2, 1) := by decide +kernel
theorem dX4_tablesThatMayBe_4 : decode cX4_tablesThatMayBe 4 = .ok (.iload_n 2, 1) := by decide +kernel
theorem dX4_tablesThatMayBe_5 : decode cX4_tablesThatMayBe 5 = .ok (.bipush 81, 2) := by decide +kernel
theorem dX4_tablesThatMayBe_7 : decode cX4_tablesThatMayBe 7 = .ok (.if_icmp .ge 20, 3) := by decide +kernel
theorem dX4_tablesThatMayBe_10 : decode cX4_tablesThatMayBe 10 = .ok (.aload_n 0, 1) := by decide +kernel
theorem dX4_tablesThatMayBe_11 : decode cX4_tablesThatMayBe 11 = .ok (.iload_n 2, 1) := by decide +kernel
theorem dX4_tablesThatMayBe_12 : decode cX4_tablesThatMayBe 12 = .ok (.invokevirtual 30, 3) := by decide +kernel
theorem dX4_tablesThatMayBe_15 : decode cX4_tablesThatMayBe 15 = .ok (.ifCond .eq 6, 3) := by decide +kernel
theorem dX4_tablesThatMayBe_18 : decode cX4_tablesThatMayBe 18 = .ok (.iinc 1 1, 3) := by decide +kernel
theorem dX4_tablesThatMayBe_21 : decode cX4_tablesThatMayBe 21 = .ok (.iinc 2 1, 3) := by decide +kernel
theorem dX4_tablesThatMayBe_24 : decode cX4_tablesThatMayBe 24 = .ok (.goto (-20), 3) := by decide +kernel
theorem dX4_tablesThatMayBe_27 : decode cX4_tablesThatMayBe 27 = .ok (.iload_n 1, 1) := by decide +kernel
theorem dX4_tablesThatMayBe_28 : decode cX4_tablesThatMayBe 28 = .ok (.ireturn, 1) := by decide +kernel
theorem dX4_likeliest_0 : decode cX4_likeliest 0 = .ok (.iconst 0, 1) := by decide +kernel
theorem dX4_likeliest_1 : decode cX4_likeliest 1 = .ok (.istore_n 1, 1) := by decide +kernel
theorem dX4_likeliest_2 : decode cX4_likeliest 2 = .ok (.iconst 1, 1) := by decide +kernel
theorem dX4_likeliest_3 : decode cX4_likeliest 3 = .ok (.istore_n 2, 1) := by decide +kernel
theorem dX4_likeliest_4 : decode cX4_likeliest 4 = .ok (.iload_n 2, 1) := by decide +kernel
theorem dX4_likeliest_5 : decode cX4_likeliest 5 = .ok (.bipush 81, 2) := by decide +kernel
theorem dX4_likeliest_7 : decode cX4_likeliest 7 = .ok (.if_icmp .ge 26, 3) := by decide +kernel
theorem dX4_likeliest_10 : decode cX4_likeliest 10 = .ok (.aload_n 0, 1) := by decide +kernel
theorem dX4_likeliest_11 : decode cX4_likeliest 11 = .ok (.getfield 11, 3) := by decide +kernel
theorem dX4_likeliest_14 : decode cX4_likeliest 14 = .ok (.iload_n 2, 1) := by decide +kernel
theorem dX4_likeliest_15 : decode cX4_likeliest 15 = .ok (.iaload, 1) := by decide +kernel
theorem dX4_likeliest_16 : decode cX4_likeliest 16 = .ok (.aload_n 0, 1) := by decide +kernel
theorem dX4_likeliest_17 : decode cX4_likeliest 17 = .ok (.getfield 11, 3) := by decide +kernel
theorem dX4_likeliest_20 : decode cX4_likeliest 20 = .ok (.iload_n 1, 1) := by decide +kernel
theorem dX4_likeliest_21 : decode cX4_likeliest 21 = .ok (.iaload, 1) := by decide +kernel
theorem dX4_likeliest_22 : decode cX4_likeliest 22 = .ok (.if_icmp .le 5, 3) := by decide +kernel
theorem dX4_likeliest_25 : decode cX4_likeliest 25 = .ok (.iload_n 2, 1) := by decide +kernel
theorem dX4_likeliest_26 : decode cX4_likeliest 26 = .ok (.istore_n 1, 1) := by decide +kernel
theorem dX4_likeliest_27 : decode cX4_likeliest 27 = .ok (.iinc 2 1, 3) := by decide +kernel
theorem dX4_likeliest_30 : decode cX4_likeliest 30 = .ok (.goto (-26), 3) := by decide +kernel
theorem dX4_likeliest_33 : decode cX4_likeliest 33 = .ok (.iload_n 1, 1) := by decide +kernel
theorem dX4_likeliest_34 : decode cX4_likeliest 34 = .ok (.ireturn, 1) := by decide +kernel
set_option maxRecDepth 20000 in
theorem ggX4_nameOfLikeliest_X4_likeliest : GoodIn wsX4_nameOfLikeliest wsX4_likeliest := goodIn_r _ [5, 6, 13, 14] (by decide +kernel) (by decide +kernel)
set_option maxRecDepth 20000 in
theorem gX4_nameOfLikeliest_X4_likeliest : GoodIn wsX4_nameOfLikeliest (wsV RX4 34 RX4 yX4_likeliest wsX4_likeliest) := goodIn_app (goodIn_of _ (by decide +kernel)) ggX4_nameOfLikeliest_X4_likeliest
set_option maxRecDepth 20000 in
theorem ggX4_nameOfLikeliest_X4_lossOf : GoodIn wsX4_nameOfLikeliest wsX4_lossOf := goodIn_r _ [9] (by decide +kernel) (by decide +kernel)
set_option maxRecDepth 20000 in
theorem gX4_nameOfLikeliest_X4_lossOf : GoodIn wsX4_nameOfLikeliest (va_wsS RX4 23 yX4_lossOf wsX4_lossOf) := goodIn_app (goodIn_of _ (by decide +kernel)) ggX4_nameOfLikeliest_X4_lossOf
set_option maxRecDepth 20000 in
theorem ggX4_nameOfLikeliest_X4_limitOf : GoodIn wsX4_nameOfLikeliest wsX4_limitOf := goodIn_r _ [12] (by decide +kernel) (by decide +kernel)
set_option maxRecDepth 20000 in
theorem gX4_nameOfLikeliest_X4_limitOf : GoodIn wsX4_nameOfLikeliest (va_wsS RX4 27 yX4_limitOf wsX4_limitOf) := goodIn_app (goodIn_of _ (by decide +kernel)) ggX4_nameOfLikeliest_X4_limitOf
theorem dX4_nameOfLikeliest_0 : decode cX4_nameOfLikeliest 0 = .ok (.aload_n 0, 1) := by decide +kernel
theorem dX4_nameOfLikeliest_1 : decode cX4_nameOfLikeliest 1 = .ok (.invokevirtual 34, 3) := by decide +kernel
theorem dX4_nameOfLikeliest_4 : decode cX4_nameOfLikeliest 4 = .ok (.istore_n 1, 1) := by decide +kernel
theorem dX4_nameOfLikeliest_5 : decode cX4_nameOfLikeliest 5 = .ok (.bipush 100, 2) := by decide +kernel
theorem dX4_nameOfLikeliest_7 : decode cX4_nameOfLikeliest 7 = .ok (.iload_n 1, 1) := by decide +kernel
theorem dX4_nameOfLikeliest_8 : decode cX4_nameOfLikeliest 8 = .ok (.invokestatic 23, 3) := by decide +kernel
theorem dX4_nameOfLikeliest_11 : decode cX4_nameOfLikeliest 11 = .ok (.imul, 1) := by decide +kernel
theorem dX4_nameOfLikeliest_12 : decode cX4_nameOfLikeliest 12 = .ok (.iload_n 1, 1) := by decide +kernel
theorem dX4_nameOfLikeliest_13 : decode cX4_nameOfLikeliest 13 = .ok (.invokestatic 27, 3) := by decide +kernel
theorem dX4_nameOfLikeliest_16 : decode cX4_nameOfLikeliest 16 = .ok (.iadd, 1) := by decide +kernel
theorem dX4_nameOfLikeliest_17 : decode cX4_nameOfLikeliest 17 = .ok (.ireturn, 1) := by decide +kernel
set_option maxRecDepth 20000 in
theorem ggX4_agreementOfLikeliest_X4_likeliest : GoodIn wsX4_agreementOfLikeliest wsX4_likeliest := goodIn_r _ [6, 1, 7, 8] (by decide +kernel) (by decide +kernel)
set_option maxRecDepth 20000 in
theorem gX4_agreementOfLikeliest_X4_likeliest : GoodIn wsX4_agreementOfLikeliest (wsV RX4 34 RX4 yX4_likeliest wsX4_likeliest) := goodIn_app (goodIn_of _ (by decide +kernel)) ggX4_agreementOfLikeliest_X4_likeliest
theorem dX4_agreementOfLikeliest_0 : decode cX4_agreementOfLikeliest 0 = .ok (.aload_n 0, 1) := by decide +kernel
theorem dX4_agreementOfLikeliest_1 : decode cX4_agreementOfLikeliest 1 = .ok (.getfield 11, 3) := by decide +kernel
theorem dX4_agreementOfLikeliest_4 : decode cX4_agreementOfLikeliest 4 = .ok (.aload_n 0, 1) := by decide +kernel
theorem dX4_agreementOfLikeliest_5 : decode cX4_agreementOfLikeliest 5 = .ok (.invokevirtual 34, 3) := by decide +kernel
theorem dX4_agreementOfLikeliest_8 : decode cX4_agreementOfLikeliest 8 = .ok (.iaload, 1) := by decide +kernel
theorem dX4_agreementOfLikeliest_9 : decode cX4_agreementOfLikeliest 9 = .ok (.ireturn, 1) := by decide +kernel
set_option maxRecDepth 20000 in
theorem ggX4_dayThatParts_X4_tablesThatMayBe : GoodIn wsX4_dayThatParts wsX4_tablesThatMayBe := goodIn_r _ [5, 6, 7, 8, 4, 9, 10, 11, 29, 30] (by decide +kernel) (by decide +kernel)
set_option maxRecDepth 20000 in
theorem gX4_dayThatParts_X4_tablesThatMayBe : GoodIn wsX4_dayThatParts (wsV RX4 38 RX4 yX4_tablesThatMayBe wsX4_tablesThatMayBe) := goodIn_app (goodIn_of _ (by decide +kernel)) ggX4_dayThatParts_X4_tablesThatMayBe
set_option maxRecDepth 20000 in
theorem ggX4_dayThatParts_X4_unlikeness : GoodIn wsX4_dayThatParts wsX4_unlikeness := goodIn_r _ [15, 16, 17, 18, 19, 6, 7, 8, 4, 9, 10, 11, 20, 21, 22, 23, 24, 25, 26, 27, 28, 29, 30] (by decide +kernel) (by decide +kernel)
set_option maxRecDepth 20000 in
theorem gX4_dayThatParts_X4_unlikeness : GoodIn wsX4_dayThatParts (wsV RX4 41 RX4 yX4_unlikeness wsX4_unlikeness) := goodIn_app (goodIn_of _ (by decide +kernel)) ggX4_dayThatParts_X4_unlikeness
theorem dX4_dayThatParts_0 : decode cX4_dayThatParts 0 = .ok (.aload_n 0, 1) := by decide +kernel
theorem dX4_dayThatParts_1 : decode cX4_dayThatParts 1 = .ok (.invokevirtual 38, 3) := by decide +kernel
theorem dX4_dayThatParts_4 : decode cX4_dayThatParts 4 = .ok (.ifCond .ne 5, 3) := by decide +kernel
theorem dX4_dayThatParts_7 : decode cX4_dayThatParts 7 = .ok (.iconst (-1), 1) := by decide +kernel
theorem dX4_dayThatParts_8 : decode cX4_dayThatParts 8 = .ok (.ireturn, 1) := by decide +kernel
theorem dX4_dayThatParts_9 : decode cX4_dayThatParts 9 = .ok (.iconst (-1), 1) := by decide +kernel
theorem dX4_dayThatParts_10 : decode cX4_dayThatParts 10 = .ok (.istore_n 1, 1) := by decide +kernel
theorem dX4_dayThatParts_11 : decode cX4_dayThatParts 11 = .ok (.bipush 82, 2) := by decide +kernel
theorem dX4_dayThatParts_13 : decode cX4_dayThatParts 13 = .ok (.istore_n 2, 1) := by decide +kernel
theorem dX4_dayThatParts_14 : decode cX4_dayThatParts 14 = .ok (.iconst 1, 1) := by decide +kernel
theorem dX4_dayThatParts_15 : decode cX4_dayThatParts 15 = .ok (.istore_n 3, 1) := by decide +kernel
theorem dX4_dayThatParts_16 : decode cX4_dayThatParts 16 = .ok (.iload_n 3, 1) := by decide +kernel
theorem dX4_dayThatParts_17 : decode cX4_dayThatParts 17 = .ok (.bipush 60, 2) := by decide +kernel
theorem dX4_dayThatParts_19 : decode cX4_dayThatParts 19 = .ok (.if_icmp .gt 27, 3) := by decide +kernel
theorem dX4_dayThatParts_22 : decode cX4_dayThatParts 22 = .ok (.aload_n 0, 1) := by decide +kernel
theorem dX4_dayThatParts_23 : decode cX4_dayThatParts 23 = .ok (.iload_n 3, 1) := by decide +kernel
theorem dX4_dayThatParts_24 : decode cX4_dayThatParts 24 = .ok (.invokevirtual 41, 3) := by decide +kernel
theorem dX4_dayThatParts_27 : decode cX4_dayThatParts 27 = .ok (.istore 4, 2) := by decide +kernel
theorem dX4_dayThatParts_29 : decode cX4_dayThatParts 29 = .ok (.iload 4, 2) := by decide +kernel
theorem dX4_dayThatParts_31 : decode cX4_dayThatParts 31 = .ok (.iload_n 2, 1) := by decide +kernel
theorem dX4_dayThatParts_32 : decode cX4_dayThatParts 32 = .ok (.if_icmp .ge 8, 3) := by decide +kernel
theorem dX4_dayThatParts_35 : decode cX4_dayThatParts 35 = .ok (.iload 4, 2) := by decide +kernel
theorem dX4_dayThatParts_37 : decode cX4_dayThatParts 37 = .ok (.istore_n 2, 1) := by decide +kernel
theorem dX4_dayThatParts_38 : decode cX4_dayThatParts 38 = .ok (.iload_n 3, 1) := by decide +kernel
theorem dX4_dayThatParts_39 : decode cX4_dayThatParts 39 = .ok (.istore_n 1, 1) := by decide +kernel
theorem dX4_dayThatParts_40 : decode cX4_dayThatParts 40 = .ok (.iinc 3 1, 3) := by decide +kernel
theorem dX4_dayThatParts_43 : decode cX4_dayThatParts 43 = .ok (.goto (-27), 3) := by decide +kernel
theorem dX4_dayThatParts_46 : decode cX4_dayThatParts 46 = .ok (.iload_n 1, 1) := by decide +kernel
theorem dX4_dayThatParts_47 : decode cX4_dayThatParts 47 = .ok (.ireturn, 1) := by decide +kernel
set_option maxRecDepth 20000 in
theorem ggX4_unlikeness_X4_mayBe : GoodIn wsX4_unlikeness wsX4_mayBe := goodIn_r _ [9, 10, 11, 21, 22] (by decide +kernel) (by decide +kernel)
set_option maxRecDepth 20000 in
theorem gX4_unlikeness_X4_mayBe : GoodIn wsX4_unlikeness (wsV RX4 30 RX4 yX4_mayBe wsX4_mayBe) := goodIn_app (goodIn_of _ (by decide +kernel)) ggX4_unlikeness_X4_mayBe
set_option maxRecDepth 20000 in
theorem ggX4_unlikeness_X4_saysRight : GoodIn wsX4_unlikeness wsX4_saysRight := goodIn_r _ [14, 15, 16, 8, 17, 18, 19, 20] (by decide +kernel) (by decide +kernel)
set_option maxRecDepth 20000 in
theorem gX4_unlikeness_X4_saysRight : GoodIn wsX4_unlikeness (va_wsS RX4 15 yX4_saysRight wsX4_saysRight) := goodIn_app (goodIn_of _ (by decide +kernel)) ggX4_unlikeness_X4_saysRight
theorem dX4_unlikeness_0 : decode cX4_unlikeness 0 = .ok (.iconst 0, 1) := by decide +kernel
theorem dX4_unlikeness_1 : decode cX4_unlikeness 1 = .ok (.istore_n 2, 1) := by decide +kernel
theorem dX4_unlikeness_2 : decode cX4_unlikeness 2 = .ok (.iconst 0, 1) := by decide +kernel
theorem dX4_unlikeness_3 : decode cX4_unlikeness 3 = .ok (.istore_n 3, 1) := by decide +kernel
theorem dX4_unlikeness_4 : decode cX4_unlikeness 4 = .ok (.iload_n 3, 1) := by decide +kernel
theorem dX4_unlikeness_5 : decode cX4_unlikeness 5 = .ok (.bipush 81, 2) := by decide +kernel
theorem dX4_unlikeness_7 : decode cX4_unlikeness 7 = .ok (.if_icmp .ge 33, 3) := by decide +kernel
theorem dX4_unlikeness_10 : decode cX4_unlikeness 10 = .ok (.aload_n 0, 1) := by decide +kernel
theorem dX4_unlikeness_11 : decode cX4_unlikeness 11 = .ok (.iload_n 3, 1) := by decide +kernel
theorem dX4_unlikeness_12 : decode cX4_unlikeness 12 = .ok (.invokevirtual 30, 3) := by decide +kernel
theorem dX4_unlikeness_15 : decode cX4_unlikeness 15 = .ok (.ifCond .eq 19, 3) := by decide +kernel
theorem dX4_unlikeness_18 : decode cX4_unlikeness 18 = .ok (.iload_n 2, 1) := by decide +kernel
theorem dX4_unlikeness_19 : decode cX4_unlikeness 19 = .ok (.iload_n 3, 1) := by decide +kernel
theorem dX4_unlikeness_20 : decode cX4_unlikeness 20 = .ok (.iload_n 1, 1) := by decide +kernel
theorem dX4_unlikeness_21 : decode cX4_unlikeness 21 = .ok (.invokestatic 15, 3) := by decide +kernel
theorem dX4_unlikeness_24 : decode cX4_unlikeness 24 = .ok (.ifCond .eq 7, 3) := by decide +kernel
theorem dX4_unlikeness_27 : decode cX4_unlikeness 27 = .ok (.iconst 1, 1) := by decide +kernel
theorem dX4_unlikeness_28 : decode cX4_unlikeness 28 = .ok (.goto 4, 3) := by decide +kernel
theorem dX4_unlikeness_31 : decode cX4_unlikeness 31 = .ok (.iconst (-1), 1) := by decide +kernel
theorem dX4_unlikeness_32 : decode cX4_unlikeness 32 = .ok (.iadd, 1) := by decide +kernel
theorem dX4_unlikeness_33 : decode cX4_unlikeness 33 = .ok (.istore_n 2, 1) := by decide +kernel
theorem dX4_unlikeness_34 : decode cX4_unlikeness 34 = .ok (.iinc 3 1, 3) := by decide +kernel
theorem dX4_unlikeness_37 : decode cX4_unlikeness 37 = .ok (.goto (-33), 3) := by decide +kernel
theorem dX4_unlikeness_40 : decode cX4_unlikeness 40 = .ok (.iload_n 2, 1) := by decide +kernel
theorem dX4_unlikeness_41 : decode cX4_unlikeness 41 = .ok (.invokestatic 44, 3) := by decide +kernel
theorem dX4_unlikeness_44 : decode cX4_unlikeness 44 = .ok (.ireturn, 1) := by decide +kernel
set_option maxHeartbeats 4000000 in
set_option maxRecDepth 100000 in
theorem k_X5_forget (l : Launch) (dC : Nat → ClassId) (dI : Nat → Nat → Nat) (cI cZ cQ : ClassId) (rb0 : Nat) (rb1 : Nat) (rb2 : Nat) (mos : Nat → Int32) (wev : Nat → Int32) (aga : Int32) (apa : Int32) (lin : Int32) (sz : Nat)  : KV l yX5_forget wsX5_forget { frames := 1, cells := 0, slots := 0, locals := 23 } (dC, dI) (TY cI cZ cQ) (wRul cI cZ cQ rb0 rb1 rb2 mos wev aga apa lin) [.ref rb0] sz 0 0 (fun (u : US) => (∀ j, j < 8 → (u.1 0) j = -1) ∧ (∀ j, j < 8 → (u.1 1) j = -1) ∧ ((u.1 2 0) = -1) ∧ ((u.1 3 0) = -1) ∧ ((u.1 4 0) = 0)) (fun u : US => (wRul cI cZ cQ rb0 rb1 rb2 (u.1 0) (u.1 1) (u.1 2 0) (u.1 3 0) (u.1 4 0))) := by
  refine Met.ofW (cc := cX5_forget) (maxL := 1) (ret := none) (by decide) rfl ?_
  intro p e s m args below meth c s₁ B hml hv
  obtain ⟨rfl, hsz, hP, hK, hD0, hN⟩ := hv
  have hx := B.exec
  have hb := B.bytes
  have hr := B.returns
  have hts := atoms_spec (ws := wsX5_forget) B.pre
  have hown : s.vm.findClass RX5 = some m.cls := findClass_of_methodNamed B.named
  have hlocks := B.notSynchronized
  have lf9 := hts (.fieldLink RX5 9 "PalaceOfRooms$RuleBook" "mostIn" "[I") (by decide +kernel)
  have inX5 : ∀ w ∈ wsX50, w ∈ wsX5_forget := by decide +kernel
  have lf15 := hts (.fieldLink RX5 15 "PalaceOfRooms$RuleBook" "walkEvery" "[I") (by decide +kernel)
  have lf27 := hts (.fieldLink RX5 27 "PalaceOfRooms$RuleBook" "again" "I") (by decide +kernel)
  have lf31 := hts (.fieldLink RX5 31 "PalaceOfRooms$RuleBook" "apart" "I") (by decide +kernel)
  have lf34 := hts (.fieldLink RX5 34 "PalaceOfRooms$RuleBook" "lines" "I") (by decide +kernel)
  subst hsz
  have hD := hD0.self (sz := s.heap.size)
  generalize hAe : va_A (wRul cI cZ cQ rb0 rb1 rb2 mos wev aga apa lin) s.heap.size = A at hD ⊢
  have hA : ∀ q : Nat, s.heap.size ≤ q → A q := fun q h => by rw [← hAe]; exact Or.inr h
  have hS : va_S A s.heap s.heap [] := va_S.rf
  have hl := lv_entry ([.ref rb0]) (n := 1) (Nat.le_of_ble_eq_true rfl)
  rw [lg_entry_eq]
  generalize (lg_sl ([.ref rb0]) ++ List.replicate (1 - (lg_sl ([.ref rb0])).length) Slot.unset).toArray = ls at hl ⊢
  have hl : lv_has ls 1 [(0, .ref rb0)] := hl
  refine lv_aload_n hx hb dX5_forget_0 rfl (lv_at hl 0 rfl) ?_
  refine va_get (D := (dC, dI)) (ci := 5) (v := .ref rb1) (C := RX5) (T := TX5) (N := 5) hx hb hts inX5 hown hK hP 0 rfl rfl 0 (by decide) lf9 (fun _ h9 => h9) rfl dX5_forget_1 ?_
  refine lv_iconst (v := (-1)) hx hb dX5_forget_4 (by decide) ?_
  refine wvS (As := [.ref rb1, .int (-1)]) (rest := []) (wr := [(rb0, .inr (5, [.ref rb1, .ref rb2, .int aga, .int apa, .int lin])), (rb2, .inl (cI, 8, .inl wev))]) (w2 := (fun u : US => (wRul cI cZ cQ rb0 rb1 rb2 (u.1 0) wev aga apa lin))) ⟨hx, hb, hml, hown, hts⟩ (k_J7_fill_53178 l dC dI cI cZ cQ rb1 8 mos _ ((-1) : Int32) (by omega)) (va_cwS 2 hts gX5_forget_J7_fill_53178 rfl rfl rfl (by decide +kernel) ⟨Nat.le_of_ble_eq_true rfl, Nat.le_of_ble_eq_true rfl⟩) hP hD hS hA hK hN [1] [0, 2] [0, 2, 1] rfl rfl (by decide) (by decide) (by decide) (fun _ => rfl) (by decide) rfl hl.1 rfl (Nat.le_of_ble_eq_true rfl) dX5_forget_5 ⟨Nat.le_of_ble_eq_true rfl, Nat.le_of_ble_eq_true rfl⟩ (fun u3 H locs h2 hP hD hS => ?_)
  obtain ⟨mos_c4, emos_c4⟩ : ∃ f : Nat → Int32, f = (u3.1 0) := ⟨_, rfl⟩
  have hP : va_P (dC, dI) vwCl (wRul cI cZ cQ rb0 rb1 rb2 mos_c4 wev aga apa lin) H := by rw [emos_c4]; exact hP
  have hD : va_D A (wRul cI cZ cQ rb0 rb1 rb2 mos_c4 wev aga apa lin) := by rw [emos_c4]; exact hD
  have h2 : (∀ j, j < 8 → mos_c4 j = ((-1) : Int32)) := by (try rw [emos_c4]); exact h2
  have h2_0 := h2
  refine lv_aload_n hx hb dX5_forget_8 rfl (lv_at hl 0 rfl) ?_
  refine va_get (D := (dC, dI)) (ci := 5) (v := .ref rb2) (C := RX5) (T := TX5) (N := 5) hx hb hts inX5 hown hK hP 0 rfl rfl 1 (by decide) lf15 (fun _ h9 => h9) rfl dX5_forget_9 ?_
  refine lv_iconst (v := (-1)) hx hb dX5_forget_12 (by decide) ?_
  refine wvS (As := [.ref rb2, .int (-1)]) (rest := []) (wr := [(rb0, .inr (5, [.ref rb1, .ref rb2, .int aga, .int apa, .int lin])), (rb1, .inl (cI, 8, .inl mos_c4))]) (w2 := (fun u : US => (wRul cI cZ cQ rb0 rb1 rb2 mos_c4 (u.1 0) aga apa lin))) ⟨hx, hb, hml, hown, hts⟩ (k_J7_fill_53178 l dC dI cI cZ cQ rb2 8 wev _ ((-1) : Int32) (by omega)) (va_cwS 2 hts gX5_forget_J7_fill_53178 rfl rfl rfl (by decide +kernel) ⟨Nat.le_of_ble_eq_true rfl, Nat.le_of_ble_eq_true rfl⟩) hP hD hS hA hK hN [2] [0, 1] [0, 1, 2] rfl rfl (by decide) (by decide) (by decide) (fun _ => rfl) (by decide) rfl hl.1 rfl (Nat.le_of_ble_eq_true rfl) dX5_forget_13 ⟨Nat.le_of_ble_eq_true rfl, Nat.le_of_ble_eq_true rfl⟩ (fun u7 H locs h6 hP hD hS => ?_)
  obtain ⟨wev_c8, ewev_c8⟩ : ∃ f : Nat → Int32, f = (u7.1 0) := ⟨_, rfl⟩
  have hP : va_P (dC, dI) vwCl (wRul cI cZ cQ rb0 rb1 rb2 mos_c4 wev_c8 aga apa lin) H := by rw [ewev_c8]; exact hP
  have hD : va_D A (wRul cI cZ cQ rb0 rb1 rb2 mos_c4 wev_c8 aga apa lin) := by rw [ewev_c8]; exact hD
  have h6 : (∀ j, j < 8 → wev_c8 j = ((-1) : Int32)) := by (try rw [ewev_c8]); exact h6
  have h6_0 := h6
  refine lv_aload_n hx hb dX5_forget_16 rfl (lv_at hl 0 rfl) ?_
  refine lv_iconst (v := (-1)) hx hb dX5_forget_17 (by decide) ?_
  refine va_put (D := (dC, dI)) (ci := 5) (v := .int (-1)) (ty := .int) (C := RX5) (T := TX5) (N := 5) hx hb hts inX5 tyX5 tyX5_ok nmX5 hown hK hP hD hS 0 rfl rfl 2 (by decide) lf27 (fun _ h9 => h9) rfl (by decide +kernel) rfl rfl (Nat.le_of_ble_eq_true rfl) dX5_forget_18 (fun H locs hP hD hS => ?_)
  have hP : va_P (dC, dI) vwCl (wRul cI cZ cQ rb0 rb1 rb2 mos_c4 wev_c8 (-1) apa lin) H := hP
  have hD : va_D A (wRul cI cZ cQ rb0 rb1 rb2 mos_c4 wev_c8 (-1) apa lin) := hD
  refine lv_aload_n hx hb dX5_forget_21 rfl (lv_at hl 0 rfl) ?_
  refine lv_iconst (v := (-1)) hx hb dX5_forget_22 (by decide) ?_
  refine va_put (D := (dC, dI)) (ci := 5) (v := .int (-1)) (ty := .int) (C := RX5) (T := TX5) (N := 5) hx hb hts inX5 tyX5 tyX5_ok nmX5 hown hK hP hD hS 0 rfl rfl 3 (by decide) lf31 (fun _ h9 => h9) rfl (by decide +kernel) rfl rfl (Nat.le_of_ble_eq_true rfl) dX5_forget_23 (fun H locs hP hD hS => ?_)
  have hP : va_P (dC, dI) vwCl (wRul cI cZ cQ rb0 rb1 rb2 mos_c4 wev_c8 (-1) (-1) lin) H := hP
  have hD : va_D A (wRul cI cZ cQ rb0 rb1 rb2 mos_c4 wev_c8 (-1) (-1) lin) := hD
  refine lv_aload_n hx hb dX5_forget_26 rfl (lv_at hl 0 rfl) ?_
  refine lv_iconst (v := 0) hx hb dX5_forget_27 (by decide) ?_
  refine va_put (D := (dC, dI)) (ci := 5) (v := .int 0) (ty := .int) (C := RX5) (T := TX5) (N := 5) hx hb hts inX5 tyX5 tyX5_ok nmX5 hown hK hP hD hS 0 rfl rfl 4 (by decide) lf34 (fun _ h9 => h9) rfl (by decide +kernel) rfl rfl (Nat.le_of_ble_eq_true rfl) dX5_forget_28 (fun H locs hP hD hS => ?_)
  have hP : va_P (dC, dI) vwCl (wRul cI cZ cQ rb0 rb1 rb2 mos_c4 wev_c8 (-1) (-1) 0) H := hP
  have hD : va_D A (wRul cI cZ cQ rb0 rb1 rb2 mos_c4 wev_c8 (-1) (-1) 0) := hD
  exact W.vret hx hb hr (fun t ht hW => ⟨⟨(uS [mos_c4, wev_c8, (fun _ => (-1)), (fun _ => (-1)), (fun _ => 0)] 0 (fun _ => 0)), rfl, ⟨(show ∀ j, j < 8 → mos_c4 j = -1 from by assumption), (show ∀ j, j < 8 → wev_c8 j = -1 from by assumption), (show (-1) = -1 from by rfl), (show (-1) = -1 from by rfl), (show 0 = 0 from by rfl)⟩, by rw [ht]; exact hP, hD⟩, hS.F ht⟩) hS.2.2 dX5_forget_31
set_option maxHeartbeats 4000000 in
set_option maxRecDepth 100000 in
theorem k_X5_cornersToUse (l : Launch) (dC : Nat → ClassId) (dI : Nat → Nat → Nat) (cI cZ cQ : ClassId) (rb0 : Nat) (rb1 : Nat) (rb2 : Nat) (mos : Nat → Int32) (wev : Nat → Int32) (aga : Int32) (apa : Int32) (lin : Int32) (ro : Int32) (q0 : 0 ≤ ro.toInt) (q1 : ro.toInt ≤ 7) : KR l yX5_cornersToUse wsX5_cornersToUse { frames := 1, cells := 0, slots := 0, locals := 24 } (dC, dI) (TY cI cZ cQ) (wRul cI cZ cQ rb0 rb1 rb2 mos wev aga apa lin) [.ref rb0, .int ro] (fun r : Int32 => True) := by
  refine Met.ofW (cc := cX5_cornersToUse) (maxL := 2) (ret := (some .int)) (by decide) rfl ?_
  intro p e s m args below meth c s₁ B hml hv
  obtain ⟨rfl, hP, hK, hN⟩ := hv
  have hx := B.exec
  have hb := B.bytes
  have hr := B.returns
  have hts := atoms_spec (ws := wsX5_cornersToUse) B.pre
  have hown : s.vm.findClass RX5 = some m.cls := findClass_of_methodNamed B.named
  have hlocks := B.notSynchronized
  have lf9 := hts (.fieldLink RX5 9 "PalaceOfRooms$RuleBook" "mostIn" "[I") (by decide +kernel)
  have inX5 : ∀ w ∈ wsX50, w ∈ wsX5_cornersToUse := by decide +kernel
  have hl := lv_entry ([.ref rb0, .int ro]) (n := 2) (Nat.le_of_ble_eq_true rfl)
  rw [lg_entry_eq]
  generalize (lg_sl ([.ref rb0, .int ro]) ++ List.replicate (2 - (lg_sl ([.ref rb0, .int ro])).length) Slot.unset).toArray = ls at hl ⊢
  have hl : lv_has ls 2 [(0, .ref rb0), (1, .int ro)] := hl
  refine lv_aload_n hx hb dX5_cornersToUse_0 rfl (lv_at hl 0 rfl) ?_
  refine va_get (D := (dC, dI)) (ci := 5) (v := .ref rb1) (C := RX5) (T := TX5) (N := 5) hx hb hts inX5 hown hK hP 0 rfl rfl 0 (by decide) lf9 (fun _ h9 => h9) rfl dX5_cornersToUse_1 ?_
  refine lv_iload_n hx hb dX5_cornersToUse_4 rfl (lv_at hl 1 rfl) ?_
  have b1 : vp_in ro 8 := inC rfl (by omega) (by omega)
  refine va_iald hx hb hK hP 1 0 rfl rfl b1 dX5_cornersToUse_5 ?_
  refine lv_iconst (v := (-1)) hx hb dX5_cornersToUse_6 (by decide) ?_
  refine lv_icmp_ne (tgt := 15) hx hb dX5_cornersToUse_7 (by decide) (fun c2 => ?_) (fun c2 => ?_)
  · have dc2 : (mos ro.toNatClampNeg).toInt ≠ (-1) := neC rfl (show ((-1) : Int32).toInt = (-1) from rfl) c2
    refine lv_aload_n hx hb dX5_cornersToUse_15 rfl (lv_at hl 0 rfl) ?_
    refine va_get (D := (dC, dI)) (ci := 5) (v := .ref rb1) (C := RX5) (T := TX5) (N := 5) hx hb hts inX5 hown hK hP 0 rfl rfl 0 (by decide) lf9 (fun _ h9 => h9) rfl dX5_cornersToUse_16 ?_
    refine lv_iload_n hx hb dX5_cornersToUse_19 rfl (lv_at hl 1 rfl) ?_
    have b3 : vp_in ro 8 := inC rfl (by omega) (by omega)
    refine va_iald hx hb hK hP 1 0 rfl rfl b3 dX5_cornersToUse_20 ?_
    refine lv_bipush (v := 6) hx hb dX5_cornersToUse_21 (by decide) ?_
    refine va_mmin hx hb (by rw [hml]; exact hl.1.symm) hown (hts (.methodLink RX5 37 Lib.Math.min.name) (by decide +kernel)) (hts (.static Lib.Math.min.name) (by decide +kernel)) (hts (.initialized "java/lang/Math") (by decide +kernel)) (hts (.code Lib.Math.min.name Lib.Math.min.code 2 (some .int)) (by decide +kernel)) (Nat.le_of_ble_eq_true rfl) (Nat.le_of_ble_eq_true rfl) (Nat.le_of_ble_eq_true rfl) (Nat.le_of_ble_eq_true rfl) dX5_cornersToUse_23 ?_
    have f4 : (if (6 : Int32) < mos ro.toNatClampNeg then 6 else mos ro.toNatClampNeg : Int32).toInt = min ((mos ro.toNatClampNeg).toInt) (6) := minC rfl (show (6 : Int32).toInt = 6 from rfl)
    refine lv_topi (fun x5 ex5 => ?_)
    have ix5 : x5.toInt = min ((mos ro.toNatClampNeg).toInt) (6) := by rw [ex5]; exact f4
    exact W.iret (v := x5) hx hb hr (fun t ht hW => ⟨x5, rfl, trivial, ht⟩) (fun q h => by cases h) dX5_cornersToUse_26
  · have dc2 : (mos ro.toNatClampNeg).toInt = (-1) := eqC rfl (show ((-1) : Int32).toInt = (-1) from rfl) c2
    refine lv_bipush (v := 6) hx hb dX5_cornersToUse_10 (by decide) ?_
    refine lv_goto (tgt := 26) hx hb dX5_cornersToUse_12 (by decide) ?_
    exact W.iret (v := 6) hx hb hr (fun t ht hW => ⟨6, rfl, trivial, ht⟩) (fun q h => by cases h) dX5_cornersToUse_26
set_option maxHeartbeats 4000000 in
set_option maxRecDepth 100000 in
theorem k_X4_lossOf (l : Launch) (dC : Nat → ClassId) (dI : Nat → Nat → Nat) (cI cZ cQ : ClassId) (tb : Int32) (q0 : 0 ≤ tb.toInt) (q1 : tb.toInt ≤ 80) : KR l yX4_lossOf wsX4_lossOf { frames := 0, cells := 0, slots := 0, locals := 0 } (dC, dI) (TY cI cZ cQ) (wNil cI cZ cQ) [.int tb] (fun r : Int32 => (1 ≤ r.toInt) ∧ (r.toInt ≤ 9)) := by
  refine Met.ofW (cc := cX4_lossOf) (maxL := 1) (ret := (some .int)) (by decide) rfl ?_
  intro p e s m args below meth c s₁ B hml hv
  obtain ⟨rfl, hP, hK, hN⟩ := hv
  have hx := B.exec
  have hb := B.bytes
  have hr := B.returns
  have hts := atoms_spec (ws := wsX4_lossOf) B.pre
  have hown : s.vm.findClass RX4 = some m.cls := findClass_of_methodNamed B.named
  have hlocks := B.notSynchronized
  have hl := lv_entry ([.int tb]) (n := 1) (Nat.le_of_ble_eq_true rfl)
  rw [lg_entry_eq]
  generalize (lg_sl ([.int tb]) ++ List.replicate (1 - (lg_sl ([.int tb])).length) Slot.unset).toArray = ls at hl ⊢
  have hl : lv_has ls 1 [(0, .int tb)] := hl
  refine lv_iload_n hx hb dX4_lossOf_0 rfl (lv_at hl 0 rfl) ?_
  refine lv_bipush (v := 9) hx hb dX4_lossOf_1 (by decide) ?_
  refine lv_idiv hx hb dX4_lossOf_3 (by decide) ?_
  have f1 : (tb / 9).toInt = (tb.toInt) / (9) := divC rfl (show (9 : Int32).toInt = 9 from rfl) (by omega) (by omega)
  refine lv_iconst (v := 1) hx hb dX4_lossOf_4 (by decide) ?_
  refine lv_iadd hx hb dX4_lossOf_5 ?_
  have f2 : ((tb / 9) + 1).toInt = ((tb.toInt) / (9)) + (1) := addC f1 (show (1 : Int32).toInt = 1 from rfl) (by omega) (by omega)
  exact W.iret (v := (tb / 9) + 1) hx hb hr (fun t ht hW => ⟨(tb / 9) + 1, rfl, ⟨(show 1 ≤ ((tb / 9) + 1).toInt from by (try rw [show ((tb / 9) + 1).toInt = ((tb.toInt) / (9)) + (1) from f2]); omega), (show ((tb / 9) + 1).toInt ≤ 9 from by (try rw [show ((tb / 9) + 1).toInt = ((tb.toInt) / (9)) + (1) from f2]); omega)⟩, ht⟩) (fun q h => by cases h) dX4_lossOf_6
set_option maxHeartbeats 4000000 in
set_option maxRecDepth 100000 in
theorem k_X4_limitOf (l : Launch) (dC : Nat → ClassId) (dI : Nat → Nat → Nat) (cI cZ cQ : ClassId) (tb : Int32) (q0 : 0 ≤ tb.toInt) (q1 : tb.toInt ≤ 80) : KR l yX4_limitOf wsX4_limitOf { frames := 0, cells := 0, slots := 0, locals := 0 } (dC, dI) (TY cI cZ cQ) (wNil cI cZ cQ) [.int tb] (fun r : Int32 => (10 ≤ r.toInt) ∧ (r.toInt ≤ 90)) := by
  refine Met.ofW (cc := cX4_limitOf) (maxL := 1) (ret := (some .int)) (by decide) rfl ?_
  intro p e s m args below meth c s₁ B hml hv
  obtain ⟨rfl, hP, hK, hN⟩ := hv
  have hx := B.exec
  have hb := B.bytes
  have hr := B.returns
  have hts := atoms_spec (ws := wsX4_limitOf) B.pre
  have hown : s.vm.findClass RX4 = some m.cls := findClass_of_methodNamed B.named
  have hlocks := B.notSynchronized
  have hl := lv_entry ([.int tb]) (n := 1) (Nat.le_of_ble_eq_true rfl)
  rw [lg_entry_eq]
  generalize (lg_sl ([.int tb]) ++ List.replicate (1 - (lg_sl ([.int tb])).length) Slot.unset).toArray = ls at hl ⊢
  have hl : lv_has ls 1 [(0, .int tb)] := hl
  refine lv_iload_n hx hb dX4_limitOf_0 rfl (lv_at hl 0 rfl) ?_
  refine lv_bipush (v := 9) hx hb dX4_limitOf_1 (by decide) ?_
  refine lv_irem hx hb dX4_limitOf_3 (by decide) ?_
  have f1 : (tb - tb / 9 * 9).toInt = (tb.toInt) % (9) := remC rfl (show (9 : Int32).toInt = 9 from rfl) (by omega) (by omega)
  refine lv_iconst (v := 1) hx hb dX4_limitOf_4 (by decide) ?_
  refine lv_iadd hx hb dX4_limitOf_5 ?_
  have f2 : ((tb - tb / 9 * 9) + 1).toInt = ((tb.toInt) % (9)) + (1) := addC f1 (show (1 : Int32).toInt = 1 from rfl) (by omega) (by omega)
  refine lv_bipush (v := 10) hx hb dX4_limitOf_6 (by decide) ?_
  refine lv_imul hx hb dX4_limitOf_8 ?_
  have f3 : (((tb - tb / 9 * 9) + 1) * 10).toInt = (((tb.toInt) % (9)) + (1)) * (10) := mulC f2 (show (10 : Int32).toInt = 10 from rfl) (by omega) (by omega)
  exact W.iret (v := ((tb - tb / 9 * 9) + 1) * 10) hx hb hr (fun t ht hW => ⟨((tb - tb / 9 * 9) + 1) * 10, rfl, ⟨(show 10 ≤ (((tb - tb / 9 * 9) + 1) * 10).toInt from by (try rw [show (((tb - tb / 9 * 9) + 1) * 10).toInt = (((tb.toInt) % (9)) + (1)) * (10) from f3]); omega), (show (((tb - tb / 9 * 9) + 1) * 10).toInt ≤ 90 from by (try rw [show (((tb - tb / 9 * 9) + 1) * 10).toInt = (((tb.toInt) % (9)) + (1)) * (10) from f3]); omega)⟩, ht⟩) (fun q h => by cases h) dX4_limitOf_9
set_option maxHeartbeats 4000000 in
set_option maxRecDepth 100000 in
theorem k_X4_saysRight (l : Launch) (dC : Nat → ClassId) (dI : Nat → Nat → Nat) (cI cZ cQ : ClassId) (tb : Int32) (dd : Int32) (q0 : 0 ≤ tb.toInt) (q1 : tb.toInt ≤ 80) (q2 : 1 ≤ dd.toInt) (q3 : dd.toInt ≤ 60) : KR l yX4_saysRight wsX4_saysRight { frames := 1, cells := 0, slots := 0, locals := 20 } (dC, dI) (TY cI cZ cQ) (wNil cI cZ cQ) [.int tb, .int dd] (fun r : Int32 => ((((r = 1)) ∨ ((r = 0))))) := by
  refine Met.ofW (cc := cX4_saysRight) (maxL := 2) (ret := (some .boolean)) (by decide) rfl ?_
  intro p e s m args below meth c s₁ B hml hv
  obtain ⟨rfl, hP, hK, hN⟩ := hv
  have hx := B.exec
  have hb := B.bytes
  have hr := B.returns
  have hts := atoms_spec (ws := wsX4_saysRight) B.pre
  have hown : s.vm.findClass RX4 = some m.cls := findClass_of_methodNamed B.named
  have hlocks := B.notSynchronized
  have hl := lv_entry ([.int tb, .int dd]) (n := 2) (Nat.le_of_ble_eq_true rfl)
  rw [lg_entry_eq]
  generalize (lg_sl ([.int tb, .int dd]) ++ List.replicate (2 - (lg_sl ([.int tb, .int dd])).length) Slot.unset).toArray = ls at hl ⊢
  have hl : lv_has ls 2 [(0, .int tb), (1, .int dd)] := hl
  refine lv_bipush (v := 100) hx hb dX4_saysRight_0 (by decide) ?_
  refine lv_iload_n hx hb dX4_saysRight_2 rfl (lv_at hl 0 rfl) ?_
  refine rdS (As := [.int tb]) (rest := [.int 100]) ⟨hx, hb, hml, hown, hts⟩ (k_X4_lossOf l dC dI cI cZ cQ tb (by omega) (by omega)) (va_cwS 1 hts gX4_saysRight_X4_lossOf rfl rfl rfl (by decide +kernel) ⟨Nat.le_of_ble_eq_true rfl, Nat.le_of_ble_eq_true rfl⟩) hP hK hN [] rfl rfl hl.1 rfl (Nat.le_of_ble_eq_true rfl) dX4_saysRight_3 ⟨Nat.le_of_ble_eq_true rfl, Nat.le_of_ble_eq_true rfl⟩ (fun r1 h2 => ?_)
  have h2 : (1 ≤ r1.toInt) ∧ (r1.toInt ≤ 9) := h2
  obtain ⟨h2_0, h2_1⟩ := h2
  refine lv_iload_n hx hb dX4_saysRight_6 rfl (lv_at hl 1 rfl) ?_
  refine lv_imul hx hb dX4_saysRight_7 ?_
  obtain ⟨f3, f3_1, f3_2⟩ := mulB (a := r1) (b := dd) (A := r1.toInt) (B := dd.toInt) (p := 9) (q := 60) rfl rfl (by omega) (by omega) (by omega) (by omega) (by decide)
  refine lv_isub hx hb dX4_saysRight_8 ?_
  have f4 : (100 - (r1 * dd)).toInt = (100) - ((r1.toInt) * (dd.toInt)) := subC (show (100 : Int32).toInt = 100 from rfl) f3 (by omega) (by omega)
  refine lv_iload_n hx hb dX4_saysRight_9 rfl (lv_at hl 0 rfl) ?_
  refine rdS (As := [.int tb]) (rest := [.int (100 - (r1 * dd))]) ⟨hx, hb, hml, hown, hts⟩ (k_X4_limitOf l dC dI cI cZ cQ tb (by omega) (by omega)) (va_cwS 1 hts gX4_saysRight_X4_limitOf rfl rfl rfl (by decide +kernel) ⟨Nat.le_of_ble_eq_true rfl, Nat.le_of_ble_eq_true rfl⟩) hP hK hN [] rfl rfl hl.1 rfl (Nat.le_of_ble_eq_true rfl) dX4_saysRight_10 ⟨Nat.le_of_ble_eq_true rfl, Nat.le_of_ble_eq_true rfl⟩ (fun r5 h6 => ?_)
  have h6 : (10 ≤ r5.toInt) ∧ (r5.toInt ≤ 90) := h6
  obtain ⟨h6_0, h6_1⟩ := h6
  refine lv_icmp_lt (tgt := 20) hx hb dX4_saysRight_13 (by decide) (fun c7 => ?_) (fun c7 => ?_)
  · have dc7 : (100) - ((r1.toInt) * (dd.toInt)) < r5.toInt := ltC f4 rfl c7
    refine lv_iconst (v := 0) hx hb dX4_saysRight_20 (by decide) ?_
    exact W.zret (v := 0) hx hb hr (by decide) (fun t ht hW => ⟨0, rfl, (Or.inr rfl), ht⟩) (fun q h => by cases h) dX4_saysRight_21
  · have dc7 : r5.toInt ≤ (100) - ((r1.toInt) * (dd.toInt)) := nltC f4 rfl c7
    refine lv_iconst (v := 1) hx hb dX4_saysRight_16 (by decide) ?_
    refine lv_goto (tgt := 21) hx hb dX4_saysRight_17 (by decide) ?_
    exact W.zret (v := 1) hx hb hr (by decide) (fun t ht hW => ⟨1, rfl, (Or.inl rfl), ht⟩) (fun q h => by cases h) dX4_saysRight_21
set_option maxHeartbeats 4000000 in
set_option maxRecDepth 100000 in
theorem k_X4_note (l : Launch) (dC : Nat → ClassId) (dI : Nat → Nat → Nat) (cI cZ cQ : ClassId) (pu0 : Nat) (pu1 : Nat) (agr : Nat → Int32) (ans : Int32) (sz : Nat) (dd : Int32) (ri : Int32) (r_ans : 0 ≤ ans.toInt ∧ ans.toInt ≤ 12) (q0 : 1 ≤ dd.toInt) (q1 : dd.toInt ≤ 60) (q2 : ans.toInt ≤ 11) : KV l yX4_note wsX4_note { frames := 2, cells := 0, slots := 0, locals := 41 } (dC, dI) (TY cI cZ cQ) (wPup cI cZ cQ pu0 pu1 agr ans) [.ref pu0, .int dd, .int ri] sz 0 0 (fun (u : US) => ((u.1 1 0) = ans + 1) ∧ (0 ≤ (u.1 1 0).toInt ∧ (u.1 1 0).toInt ≤ 12)) (fun u : US => (wPup cI cZ cQ pu0 pu1 (u.1 0) (u.1 1 0))) := by
  refine Met.ofW (cc := cX4_note) (maxL := 4) (ret := none) (by decide) rfl ?_
  intro p e s m args below meth c s₁ B hml hv
  obtain ⟨rfl, hsz, hP, hK, hD0, hN⟩ := hv
  have hx := B.exec
  have hb := B.bytes
  have hr := B.returns
  have hts := atoms_spec (ws := wsX4_note) B.pre
  have hown : s.vm.findClass RX4 = some m.cls := findClass_of_methodNamed B.named
  have hlocks := B.notSynchronized
  have lf19 := hts (.fieldLink RX4 19 "PalaceOfRooms$Pupil" "answers" "I") (by decide +kernel)
  have inX4 : ∀ w ∈ wsX40, w ∈ wsX4_note := by decide +kernel
  have lf11 := hts (.fieldLink RX4 11 "PalaceOfRooms$Pupil" "agreement" "[I") (by decide +kernel)
  subst hsz
  have hD := hD0.self (sz := s.heap.size)
  generalize hAe : va_A (wPup cI cZ cQ pu0 pu1 agr ans) s.heap.size = A at hD ⊢
  have hA : ∀ q : Nat, s.heap.size ≤ q → A q := fun q h => by rw [← hAe]; exact Or.inr h
  have hS : va_S A s.heap s.heap [] := va_S.rf
  have hl := lv_entry ([.ref pu0, .int dd, .int ri]) (n := 4) (Nat.le_of_ble_eq_true rfl)
  rw [lg_entry_eq]
  generalize (lg_sl ([.ref pu0, .int dd, .int ri]) ++ List.replicate (4 - (lg_sl ([.ref pu0, .int dd, .int ri])).length) Slot.unset).toArray = ls at hl ⊢
  have hl : lv_has ls 4 [(0, .ref pu0), (1, .int dd), (2, .int ri)] := hl
  refine lv_iconst (v := 0) hx hb dX4_note_0 (by decide) ?_
  refine lv_istore_n (lv' := [(3, .int 0), (0, .ref pu0), (1, .int dd), (2, .int ri)]) hx hb dX4_note_1 rfl hl (by decide) rfl (fun ls hl => ?_)
  have L2 : ∀ (nn : Nat) (y2_3 : Int32) (agr_2 : Nat → Int32) (H : Heap) (locs : List Loc) (ls : Array Slot), (0 ≤ (y2_3.toInt)) → ((y2_3.toInt) ≤ 81) → (81 - (y2_3.toInt)).toNat < nn → va_P (dC, dI) vwCl (wPup cI cZ cQ pu0 pu1 agr_2 ans) H → va_D A (wPup cI cZ cQ pu0 pu1 agr_2 ans) → va_S A s.heap H locs → lv_has ls 4 [(0, .ref pu0), (1, .int dd), (2, .int ri), (3, .int y2_3)] → W p l e (headSpec wsX4_note { frames := 2, cells := 0, slots := 0, locals := 41 }).room s m ([.ref pu0, .int dd, .int ri] : List Value).toArray below meth c H locs 0 0 (MQ below (va_Qv (fun (u : US) => ((u.1 1 0) = ans + 1) ∧ (0 ≤ (u.1 1 0).toInt ∧ (u.1 1 0).toInt ≤ 12)) (Bw (dC, dI) A (fun u : US => (wPup cI cZ cQ pu0 pu1 (u.1 0) (u.1 1 0)))) A) ([.ref pu0, .int dd, .int ri] : List Value).toArray s 0 0 A) (F0 m 2 ls []) := by
    intro nn
    induction nn with
    | zero =>
      intro y2_3 agr_2 H locs ls i2_0 i2_1 hm
      exact absurd hm (Nat.not_lt_zero _)
    | succ nn ih2 =>
      intro y2_3 agr_2 H locs ls i2_0 i2_1 hm hP hD hS hl
      refine lv_iload_n hx hb dX4_note_2 rfl (lv_at hl 3 rfl) ?_
      refine lv_bipush (v := 81) hx hb dX4_note_3 (by decide) ?_
      refine lv_icmp_ge (tgt := 33) hx hb dX4_note_5 (by decide) (fun c1 => ?_) (fun c1 => ?_)
      · have dc1 : 81 ≤ y2_3.toInt := leC (show (81 : Int32).toInt = 81 from rfl) rfl c1
        refine lv_aload_n hx hb dX4_note_33 rfl (lv_at hl 0 rfl) ?_
        refine lv_dup hx hb dX4_note_34 rfl ?_
        refine va_get (D := (dC, dI)) (ci := 4) (v := .int ans) (C := RX4) (T := TX4) (N := 2) hx hb hts inX4 hown hK hP 0 rfl rfl 1 (by decide) lf19 (fun _ h9 => h9) rfl dX4_note_35 ?_
        refine lv_iconst (v := 1) hx hb dX4_note_38 (by decide) ?_
        refine lv_iadd hx hb dX4_note_39 ?_
        have f2 : (ans + 1).toInt = (ans.toInt) + (1) := addC rfl (show (1 : Int32).toInt = 1 from rfl) (by omega) (by omega)
        refine lv_topi (fun x3 ex3 => ?_)
        have ix3 : x3.toInt = (ans.toInt) + (1) := by rw [ex3]; exact f2
        refine va_put (D := (dC, dI)) (ci := 4) (v := .int x3) (ty := .int) (C := RX4) (T := TX4) (N := 2) hx hb hts inX4 tyX4 tyX4_ok nmX4 hown hK hP hD hS 0 rfl rfl 1 (by decide) lf19 (fun _ h9 => h9) rfl (by decide +kernel) rfl rfl (Nat.le_of_ble_eq_true rfl) dX4_note_40 (fun H locs hP hD hS => ?_)
        have g4 : 0 ≤ x3.toInt ∧ x3.toInt ≤ 12 := by rw [show x3.toInt = x3.toInt from rfl]; exact ⟨by omega, by omega⟩
        have hP : va_P (dC, dI) vwCl (wPup cI cZ cQ pu0 pu1 agr_2 x3) H := hP
        have hD : va_D A (wPup cI cZ cQ pu0 pu1 agr_2 x3) := hD
        exact W.vret hx hb hr (fun t ht hW => ⟨⟨(uS [agr_2, (fun _ => x3)] 0 (fun _ => 0)), rfl, ⟨(show x3 = ans + 1 from by (subst_vars; rfl)), g4⟩, by rw [ht]; exact hP, hD⟩, hS.F ht⟩) hS.2.2 dX4_note_43
      · have dc1 : y2_3.toInt < 81 := nleC (show (81 : Int32).toInt = 81 from rfl) rfl c1
        refine lv_iload_n hx hb dX4_note_8 rfl (lv_at hl 3 rfl) ?_
        refine lv_iload_n hx hb dX4_note_9 rfl (lv_at hl 1 rfl) ?_
        refine rdS (As := [.int y2_3, .int dd]) (rest := []) ⟨hx, hb, hml, hown, hts⟩ (k_X4_saysRight l dC dI cI cZ cQ y2_3 dd (by omega) (by omega) (by omega) (by omega)) (va_cwS 2 hts gX4_note_X4_saysRight rfl rfl rfl (by decide +kernel) ⟨Nat.le_of_ble_eq_true rfl, Nat.le_of_ble_eq_true rfl⟩) hP hK hN [] rfl rfl hl.1 rfl (Nat.le_of_ble_eq_true rfl) dX4_note_10 ⟨Nat.le_of_ble_eq_true rfl, Nat.le_of_ble_eq_true rfl⟩ (fun r5 h6 => ?_)
        have h6 : ((((r5 = 1)) ∨ ((r5 = 0)))) := h6
        rcases h6 with (rfl | rfl)
        · refine lv_iload_n hx hb dX4_note_13 rfl (lv_at hl 2 rfl) ?_
          refine lv_icmp_ne (tgt := 27) hx hb dX4_note_14 (by decide) (fun c7 => ?_) (fun c7 => ?_)
          · have dc7 : 1 ≠ ri.toInt := neC (show (1 : Int32).toInt = 1 from rfl) rfl c7
            obtain ⟨z8, ez8⟩ : ∃ y : Int32, y = y2_3 + 1 := ⟨_, rfl⟩
            have iz8 : z8.toInt = y2_3.toInt + 1 := by rw [ez8]; exact addC rfl rfl (by omega) (by omega)
            refine lv_iinc (v := z8) (lv' := [(3, .int z8), (0, .ref pu0), (1, .int dd), (2, .int ri)]) hx hb dX4_note_27 hl (k := 3) rfl (by rw [ez8]; rfl) (by decide) rfl (fun ls hl => ?_)
            refine lv_goto (tgt := 2) hx hb dX4_note_30 (by decide) ?_
            exact ih2 z8 agr_2 _ _ _ (by omega) (by omega) (by omega) hP hD hS (lv_sub hl [1, 2, 3, 0] rfl)
          · have dc7 : 1 = ri.toInt := eqC (show (1 : Int32).toInt = 1 from rfl) rfl c7
            refine lv_aload_n hx hb dX4_note_17 rfl (lv_at hl 0 rfl) ?_
            refine va_get (D := (dC, dI)) (ci := 4) (v := .ref pu1) (C := RX4) (T := TX4) (N := 2) hx hb hts inX4 hown hK hP 0 rfl rfl 0 (by decide) lf11 (fun _ h9 => h9) rfl dX4_note_18 ?_
            refine lv_iload_n hx hb dX4_note_21 rfl (lv_at hl 3 rfl) ?_
            refine lv_dup2_11 hx hb dX4_note_22 rfl rfl ?_
            have b9 : vp_in y2_3 81 := inC rfl (by omega) (by omega)
            refine va_iald hx hb hK hP 1 0 rfl rfl b9 dX4_note_23 ?_
            refine lv_iconst (v := 1) hx hb dX4_note_24 (by decide) ?_
            refine lv_iadd hx hb dX4_note_25 ?_
            refine lv_topi (fun x10 ex10 => ?_)
            have ix10 : x10.toInt = ((agr_2 y2_3.toNatClampNeg) + 1).toInt := by rw [ex10]
            have b11 : vp_in y2_3 81 := inC rfl (by omega) (by omega)
            refine va_iast hx hb hK hP hD hS 1 0 rfl rfl b11 dX4_note_26 (fun H locs hP hD hS => ?_)
            obtain ⟨agr_u12, eagr_u12⟩ : ∃ f : Nat → Int32, f = upd agr_2 y2_3.toNatClampNeg x10 := ⟨_, rfl⟩
            have hP : va_P (dC, dI) vwCl (wPup cI cZ cQ pu0 pu1 agr_u12 ans) H := by rw [eagr_u12]; exact hP
            have hD : va_D A (wPup cI cZ cQ pu0 pu1 agr_u12 ans) := by rw [eagr_u12]; exact hD
            obtain ⟨z13, ez13⟩ : ∃ y : Int32, y = y2_3 + 1 := ⟨_, rfl⟩
            have iz13 : z13.toInt = y2_3.toInt + 1 := by rw [ez13]; exact addC rfl rfl (by omega) (by omega)
            refine lv_iinc (v := z13) (lv' := [(3, .int z13), (0, .ref pu0), (1, .int dd), (2, .int ri)]) hx hb dX4_note_27 hl (k := 3) rfl (by rw [ez13]; rfl) (by decide) rfl (fun ls hl => ?_)
            refine lv_goto (tgt := 2) hx hb dX4_note_30 (by decide) ?_
            exact ih2 z13 agr_u12 _ _ _ (by omega) (by omega) (by omega) hP hD hS (lv_sub hl [1, 2, 3, 0] rfl)
        · refine lv_iload_n hx hb dX4_note_13 rfl (lv_at hl 2 rfl) ?_
          refine lv_icmp_ne (tgt := 27) hx hb dX4_note_14 (by decide) (fun c14 => ?_) (fun c14 => ?_)
          · have dc14 : 0 ≠ ri.toInt := neC (show (0 : Int32).toInt = 0 from rfl) rfl c14
            obtain ⟨z15, ez15⟩ : ∃ y : Int32, y = y2_3 + 1 := ⟨_, rfl⟩
            have iz15 : z15.toInt = y2_3.toInt + 1 := by rw [ez15]; exact addC rfl rfl (by omega) (by omega)
            refine lv_iinc (v := z15) (lv' := [(3, .int z15), (0, .ref pu0), (1, .int dd), (2, .int ri)]) hx hb dX4_note_27 hl (k := 3) rfl (by rw [ez15]; rfl) (by decide) rfl (fun ls hl => ?_)
            refine lv_goto (tgt := 2) hx hb dX4_note_30 (by decide) ?_
            exact ih2 z15 agr_2 _ _ _ (by omega) (by omega) (by omega) hP hD hS (lv_sub hl [1, 2, 3, 0] rfl)
          · have dc14 : 0 = ri.toInt := eqC (show (0 : Int32).toInt = 0 from rfl) rfl c14
            refine lv_aload_n hx hb dX4_note_17 rfl (lv_at hl 0 rfl) ?_
            refine va_get (D := (dC, dI)) (ci := 4) (v := .ref pu1) (C := RX4) (T := TX4) (N := 2) hx hb hts inX4 hown hK hP 0 rfl rfl 0 (by decide) lf11 (fun _ h9 => h9) rfl dX4_note_18 ?_
            refine lv_iload_n hx hb dX4_note_21 rfl (lv_at hl 3 rfl) ?_
            refine lv_dup2_11 hx hb dX4_note_22 rfl rfl ?_
            have b16 : vp_in y2_3 81 := inC rfl (by omega) (by omega)
            refine va_iald hx hb hK hP 1 0 rfl rfl b16 dX4_note_23 ?_
            refine lv_iconst (v := 1) hx hb dX4_note_24 (by decide) ?_
            refine lv_iadd hx hb dX4_note_25 ?_
            refine lv_topi (fun x17 ex17 => ?_)
            have ix17 : x17.toInt = ((agr_2 y2_3.toNatClampNeg) + 1).toInt := by rw [ex17]
            have b18 : vp_in y2_3 81 := inC rfl (by omega) (by omega)
            refine va_iast hx hb hK hP hD hS 1 0 rfl rfl b18 dX4_note_26 (fun H locs hP hD hS => ?_)
            obtain ⟨agr_u19, eagr_u19⟩ : ∃ f : Nat → Int32, f = upd agr_2 y2_3.toNatClampNeg x17 := ⟨_, rfl⟩
            have hP : va_P (dC, dI) vwCl (wPup cI cZ cQ pu0 pu1 agr_u19 ans) H := by rw [eagr_u19]; exact hP
            have hD : va_D A (wPup cI cZ cQ pu0 pu1 agr_u19 ans) := by rw [eagr_u19]; exact hD
            obtain ⟨z20, ez20⟩ : ∃ y : Int32, y = y2_3 + 1 := ⟨_, rfl⟩
            have iz20 : z20.toInt = y2_3.toInt + 1 := by rw [ez20]; exact addC rfl rfl (by omega) (by omega)
            refine lv_iinc (v := z20) (lv' := [(3, .int z20), (0, .ref pu0), (1, .int dd), (2, .int ri)]) hx hb dX4_note_27 hl (k := 3) rfl (by rw [ez20]; rfl) (by decide) rfl (fun ls hl => ?_)
            refine lv_goto (tgt := 2) hx hb dX4_note_30 (by decide) ?_
            exact ih2 z20 agr_u19 _ _ _ (by omega) (by omega) (by omega) hP hD hS (lv_sub hl [1, 2, 3, 0] rfl)
  have kc21 : (0 : Int32).toInt = 0 := rfl
  exact L2 _ 0 agr _ _ _ (by omega) (by omega) (Nat.lt_succ_self _) hP hD hS (lv_sub hl [1, 2, 3, 0] rfl)
set_option maxHeartbeats 4000000 in
set_option maxRecDepth 100000 in
theorem k_X4_mayBe (l : Launch) (dC : Nat → ClassId) (dI : Nat → Nat → Nat) (cI cZ cQ : ClassId) (pu0 : Nat) (pu1 : Nat) (agr : Nat → Int32) (ans : Int32) (tb : Int32) (r_ans : 0 ≤ ans.toInt ∧ ans.toInt ≤ 12) (q0 : 0 ≤ tb.toInt) (q1 : tb.toInt ≤ 80) : KR l yX4_mayBe wsX4_mayBe { frames := 0, cells := 0, slots := 0, locals := 0 } (dC, dI) (TY cI cZ cQ) (wPup cI cZ cQ pu0 pu1 agr ans) [.ref pu0, .int tb] (fun r : Int32 => ((((r = 1)) ∨ ((r = 0))))) := by
  refine Met.ofW (cc := cX4_mayBe) (maxL := 2) (ret := (some .boolean)) (by decide) rfl ?_
  intro p e s m args below meth c s₁ B hml hv
  obtain ⟨rfl, hP, hK, hN⟩ := hv
  have hx := B.exec
  have hb := B.bytes
  have hr := B.returns
  have hts := atoms_spec (ws := wsX4_mayBe) B.pre
  have hown : s.vm.findClass RX4 = some m.cls := findClass_of_methodNamed B.named
  have hlocks := B.notSynchronized
  have lf11 := hts (.fieldLink RX4 11 "PalaceOfRooms$Pupil" "agreement" "[I") (by decide +kernel)
  have inX4 : ∀ w ∈ wsX40, w ∈ wsX4_mayBe := by decide +kernel
  have lf19 := hts (.fieldLink RX4 19 "PalaceOfRooms$Pupil" "answers" "I") (by decide +kernel)
  have hl := lv_entry ([.ref pu0, .int tb]) (n := 2) (Nat.le_of_ble_eq_true rfl)
  rw [lg_entry_eq]
  generalize (lg_sl ([.ref pu0, .int tb]) ++ List.replicate (2 - (lg_sl ([.ref pu0, .int tb])).length) Slot.unset).toArray = ls at hl ⊢
  have hl : lv_has ls 2 [(0, .ref pu0), (1, .int tb)] := hl
  refine lv_aload_n hx hb dX4_mayBe_0 rfl (lv_at hl 0 rfl) ?_
  refine va_get (D := (dC, dI)) (ci := 4) (v := .ref pu1) (C := RX4) (T := TX4) (N := 2) hx hb hts inX4 hown hK hP 0 rfl rfl 0 (by decide) lf11 (fun _ h9 => h9) rfl dX4_mayBe_1 ?_
  refine lv_iload_n hx hb dX4_mayBe_4 rfl (lv_at hl 1 rfl) ?_
  have b1 : vp_in tb 81 := inC rfl (by omega) (by omega)
  refine va_iald hx hb hK hP 1 0 rfl rfl b1 dX4_mayBe_5 ?_
  refine lv_aload_n hx hb dX4_mayBe_6 rfl (lv_at hl 0 rfl) ?_
  refine va_get (D := (dC, dI)) (ci := 4) (v := .int ans) (C := RX4) (T := TX4) (N := 2) hx hb hts inX4 hown hK hP 0 rfl rfl 1 (by decide) lf19 (fun _ h9 => h9) rfl dX4_mayBe_7 ?_
  refine lv_icmp_ne (tgt := 17) hx hb dX4_mayBe_10 (by decide) (fun c2 => ?_) (fun c2 => ?_)
  · have dc2 : (agr tb.toNatClampNeg).toInt ≠ ans.toInt := neC rfl rfl c2
    refine lv_iconst (v := 0) hx hb dX4_mayBe_17 (by decide) ?_
    exact W.zret (v := 0) hx hb hr (by decide) (fun t ht hW => ⟨0, rfl, (Or.inr rfl), ht⟩) (fun q h => by cases h) dX4_mayBe_18
  · have dc2 : (agr tb.toNatClampNeg).toInt = ans.toInt := eqC rfl rfl c2
    refine lv_iconst (v := 1) hx hb dX4_mayBe_13 (by decide) ?_
    refine lv_goto (tgt := 18) hx hb dX4_mayBe_14 (by decide) ?_
    exact W.zret (v := 1) hx hb hr (by decide) (fun t ht hW => ⟨1, rfl, (Or.inl rfl), ht⟩) (fun q h => by cases h) dX4_mayBe_18
set_option maxHeartbeats 4000000 in
set_option maxRecDepth 100000 in
theorem k_X4_tablesThatMayBe (l : Launch) (dC : Nat → ClassId) (dI : Nat → Nat → Nat) (cI cZ cQ : ClassId) (pu0 : Nat) (pu1 : Nat) (agr : Nat → Int32) (ans : Int32) (r_ans : 0 ≤ ans.toInt ∧ ans.toInt ≤ 12) : KR l yX4_tablesThatMayBe wsX4_tablesThatMayBe { frames := 1, cells := 0, slots := 0, locals := 21 } (dC, dI) (TY cI cZ cQ) (wPup cI cZ cQ pu0 pu1 agr ans) [.ref pu0] (fun r : Int32 => True) := by
  refine Met.ofW (cc := cX4_tablesThatMayBe) (maxL := 3) (ret := (some .int)) (by decide) rfl ?_
  intro p e s m args below meth c s₁ B hml hv
  obtain ⟨rfl, hP, hK, hN⟩ := hv
  have hx := B.exec
  have hb := B.bytes
  have hr := B.returns
  have hts := atoms_spec (ws := wsX4_tablesThatMayBe) B.pre
  have hown : s.vm.findClass RX4 = some m.cls := findClass_of_methodNamed B.named
  have hlocks := B.notSynchronized
  have hl := lv_entry ([.ref pu0]) (n := 3) (Nat.le_of_ble_eq_true rfl)
  rw [lg_entry_eq]
  generalize (lg_sl ([.ref pu0]) ++ List.replicate (3 - (lg_sl ([.ref pu0])).length) Slot.unset).toArray = ls at hl ⊢
  have hl : lv_has ls 3 [(0, .ref pu0)] := hl
  refine lv_iconst (v := 0) hx hb dX4_tablesThatMayBe_0 (by decide) ?_
  refine lv_istore_n (lv' := [(1, .int 0), (0, .ref pu0)]) hx hb dX4_tablesThatMayBe_1 rfl hl (by decide) rfl (fun ls hl => ?_)
  refine lv_iconst (v := 0) hx hb dX4_tablesThatMayBe_2 (by decide) ?_
  refine lv_istore_n (lv' := [(2, .int 0), (1, .int 0), (0, .ref pu0)]) hx hb dX4_tablesThatMayBe_3 rfl hl (by decide) rfl (fun ls hl => ?_)
  have L4 : ∀ (nn : Nat) (y4_1 : Int32) (y4_2 : Int32) (ls : Array Slot), (0 ≤ (y4_2.toInt)) → ((y4_2.toInt) ≤ 81) → (81 - (y4_2.toInt)).toNat < nn → lv_has ls 3 [(0, .ref pu0), (1, .int y4_1), (2, .int y4_2)] → W p l e (headSpec wsX4_tablesThatMayBe { frames := 1, cells := 0, slots := 0, locals := 21 }).room s m ([.ref pu0] : List Value).toArray below meth c s.heap [] 0 0 (MQ below (QR (fun r : Int32 => True)) ([.ref pu0] : List Value).toArray s 0 0 (fun _ => False)) (F0 m 4 ls []) := by
    intro nn
    induction nn with
    | zero =>
      intro y4_1 y4_2 ls i4_0 i4_1 hm
      exact absurd hm (Nat.not_lt_zero _)
    | succ nn ih4 =>
      intro y4_1 y4_2 ls i4_0 i4_1 hm hl
      refine lv_iload_n hx hb dX4_tablesThatMayBe_4 rfl (lv_at hl 2 rfl) ?_
      refine lv_bipush (v := 81) hx hb dX4_tablesThatMayBe_5 (by decide) ?_
      refine lv_icmp_ge (tgt := 27) hx hb dX4_tablesThatMayBe_7 (by decide) (fun c1 => ?_) (fun c1 => ?_)
      · have dc1 : 81 ≤ y4_2.toInt := leC (show (81 : Int32).toInt = 81 from rfl) rfl c1
        refine lv_iload_n hx hb dX4_tablesThatMayBe_27 rfl (lv_at hl 1 rfl) ?_
        exact W.iret (v := y4_1) hx hb hr (fun t ht hW => ⟨y4_1, rfl, trivial, ht⟩) (fun q h => by cases h) dX4_tablesThatMayBe_28
      · have dc1 : y4_2.toInt < 81 := nleC (show (81 : Int32).toInt = 81 from rfl) rfl c1
        refine lv_aload_n hx hb dX4_tablesThatMayBe_10 rfl (lv_at hl 0 rfl) ?_
        refine lv_iload_n hx hb dX4_tablesThatMayBe_11 rfl (lv_at hl 2 rfl) ?_
        refine rdV (As := [.int y4_2]) (rest := []) ⟨hx, hb, hml, hown, hts⟩ (k_X4_mayBe l dC dI cI cZ cQ pu0 pu1 agr ans y4_2 r_ans (by omega) (by omega)) (cwV 1 hts gX4_tablesThatMayBe_X4_mayBe rfl rfl rfl (by decide +kernel) ⟨Nat.le_of_ble_eq_true rfl, Nat.le_of_ble_eq_true rfl⟩) hP hK hN [0, 1] rfl 0 4 rfl rfl rfl hl.1 rfl (Nat.le_of_ble_eq_true rfl) dX4_tablesThatMayBe_12 ⟨Nat.le_of_ble_eq_true rfl, Nat.le_of_ble_eq_true rfl⟩ (fun r2 h3 => ?_)
        have h3 : ((((r2 = 1)) ∨ ((r2 = 0)))) := h3
        rcases h3 with (rfl | rfl)
        · refine lv_if_eq (tgt := 21) hx hb dX4_tablesThatMayBe_15 (by decide) (fun c9 => absurd c9 (by decide)) (fun _ => ?_)
          obtain ⟨z4, ez4⟩ : ∃ y : Int32, y = y4_1 + 1 := ⟨_, rfl⟩
          refine lv_iinc (v := z4) (lv' := [(1, .int z4), (0, .ref pu0), (2, .int y4_2)]) hx hb dX4_tablesThatMayBe_18 hl (k := 1) rfl (by rw [ez4]; rfl) (by decide) rfl (fun ls hl => ?_)
          obtain ⟨z5, ez5⟩ : ∃ y : Int32, y = y4_2 + 1 := ⟨_, rfl⟩
          have iz5 : z5.toInt = y4_2.toInt + 1 := by rw [ez5]; exact addC rfl rfl (by omega) (by omega)
          refine lv_iinc (v := z5) (lv' := [(2, .int z5), (1, .int z4), (0, .ref pu0)]) hx hb dX4_tablesThatMayBe_21 hl (k := 2) rfl (by rw [ez5]; rfl) (by decide) rfl (fun ls hl => ?_)
          refine lv_goto (tgt := 4) hx hb dX4_tablesThatMayBe_24 (by decide) ?_
          exact ih4 z4 z5 _ (by omega) (by omega) (by omega) (lv_sub hl [2, 1, 0] rfl)
        · refine lv_if_eq (tgt := 21) hx hb dX4_tablesThatMayBe_15 (by decide) (fun _ => ?_) (fun c9 => absurd (by decide) c9)
          obtain ⟨z6, ez6⟩ : ∃ y : Int32, y = y4_2 + 1 := ⟨_, rfl⟩
          have iz6 : z6.toInt = y4_2.toInt + 1 := by rw [ez6]; exact addC rfl rfl (by omega) (by omega)
          refine lv_iinc (v := z6) (lv' := [(2, .int z6), (0, .ref pu0), (1, .int y4_1)]) hx hb dX4_tablesThatMayBe_21 hl (k := 2) rfl (by rw [ez6]; rfl) (by decide) rfl (fun ls hl => ?_)
          refine lv_goto (tgt := 4) hx hb dX4_tablesThatMayBe_24 (by decide) ?_
          exact ih4 y4_1 z6 _ (by omega) (by omega) (by omega) (lv_sub hl [1, 2, 0] rfl)
  have kc7 : (0 : Int32).toInt = 0 := rfl
  exact L4 _ 0 0 _ (by omega) (by omega) (Nat.lt_succ_self _) (lv_sub hl [2, 1, 0] rfl)
set_option maxHeartbeats 4000000 in
set_option maxRecDepth 100000 in
theorem k_X4_likeliest (l : Launch) (dC : Nat → ClassId) (dI : Nat → Nat → Nat) (cI cZ cQ : ClassId) (pu0 : Nat) (pu1 : Nat) (agr : Nat → Int32) (ans : Int32) (r_ans : 0 ≤ ans.toInt ∧ ans.toInt ≤ 12) : KR l yX4_likeliest wsX4_likeliest { frames := 0, cells := 0, slots := 0, locals := 0 } (dC, dI) (TY cI cZ cQ) (wPup cI cZ cQ pu0 pu1 agr ans) [.ref pu0] (fun r : Int32 => (0 ≤ r.toInt) ∧ (r.toInt ≤ 80)) := by
  refine Met.ofW (cc := cX4_likeliest) (maxL := 3) (ret := (some .int)) (by decide) rfl ?_
  intro p e s m args below meth c s₁ B hml hv
  obtain ⟨rfl, hP, hK, hN⟩ := hv
  have hx := B.exec
  have hb := B.bytes
  have hr := B.returns
  have hts := atoms_spec (ws := wsX4_likeliest) B.pre
  have hown : s.vm.findClass RX4 = some m.cls := findClass_of_methodNamed B.named
  have hlocks := B.notSynchronized
  have lf11 := hts (.fieldLink RX4 11 "PalaceOfRooms$Pupil" "agreement" "[I") (by decide +kernel)
  have inX4 : ∀ w ∈ wsX40, w ∈ wsX4_likeliest := by decide +kernel
  have hl := lv_entry ([.ref pu0]) (n := 3) (Nat.le_of_ble_eq_true rfl)
  rw [lg_entry_eq]
  generalize (lg_sl ([.ref pu0]) ++ List.replicate (3 - (lg_sl ([.ref pu0])).length) Slot.unset).toArray = ls at hl ⊢
  have hl : lv_has ls 3 [(0, .ref pu0)] := hl
  refine lv_iconst (v := 0) hx hb dX4_likeliest_0 (by decide) ?_
  refine lv_istore_n (lv' := [(1, .int 0), (0, .ref pu0)]) hx hb dX4_likeliest_1 rfl hl (by decide) rfl (fun ls hl => ?_)
  refine lv_iconst (v := 1) hx hb dX4_likeliest_2 (by decide) ?_
  refine lv_istore_n (lv' := [(2, .int 1), (1, .int 0), (0, .ref pu0)]) hx hb dX4_likeliest_3 rfl hl (by decide) rfl (fun ls hl => ?_)
  have L4 : ∀ (nn : Nat) (y4_1 : Int32) (y4_2 : Int32) (ls : Array Slot), (1 ≤ (y4_2.toInt)) → ((y4_2.toInt) ≤ 81) → (0 ≤ (y4_1.toInt)) → ((y4_1.toInt) ≤ 80) → (81 - (y4_2.toInt)).toNat < nn → lv_has ls 3 [(0, .ref pu0), (1, .int y4_1), (2, .int y4_2)] → W p l e (headSpec wsX4_likeliest { frames := 0, cells := 0, slots := 0, locals := 0 }).room s m ([.ref pu0] : List Value).toArray below meth c s.heap [] 0 0 (MQ below (QR (fun r : Int32 => (0 ≤ r.toInt) ∧ (r.toInt ≤ 80))) ([.ref pu0] : List Value).toArray s 0 0 (fun _ => False)) (F0 m 4 ls []) := by
    intro nn
    induction nn with
    | zero =>
      intro y4_1 y4_2 ls i4_0 i4_1 i4_2 i4_3 hm
      exact absurd hm (Nat.not_lt_zero _)
    | succ nn ih4 =>
      intro y4_1 y4_2 ls i4_0 i4_1 i4_2 i4_3 hm hl
      refine lv_iload_n hx hb dX4_likeliest_4 rfl (lv_at hl 2 rfl) ?_
      refine lv_bipush (v := 81) hx hb dX4_likeliest_5 (by decide) ?_
      refine lv_icmp_ge (tgt := 33) hx hb dX4_likeliest_7 (by decide) (fun c1 => ?_) (fun c1 => ?_)
      · have dc1 : 81 ≤ y4_2.toInt := leC (show (81 : Int32).toInt = 81 from rfl) rfl c1
        refine lv_iload_n hx hb dX4_likeliest_33 rfl (lv_at hl 1 rfl) ?_
        exact W.iret (v := y4_1) hx hb hr (fun t ht hW => ⟨y4_1, rfl, ⟨(show 0 ≤ y4_1.toInt from by omega), (show y4_1.toInt ≤ 80 from by omega)⟩, ht⟩) (fun q h => by cases h) dX4_likeliest_34
      · have dc1 : y4_2.toInt < 81 := nleC (show (81 : Int32).toInt = 81 from rfl) rfl c1
        refine lv_aload_n hx hb dX4_likeliest_10 rfl (lv_at hl 0 rfl) ?_
        refine va_get (D := (dC, dI)) (ci := 4) (v := .ref pu1) (C := RX4) (T := TX4) (N := 2) hx hb hts inX4 hown hK hP 0 rfl rfl 0 (by decide) lf11 (fun _ h9 => h9) rfl dX4_likeliest_11 ?_
        refine lv_iload_n hx hb dX4_likeliest_14 rfl (lv_at hl 2 rfl) ?_
        have b2 : vp_in y4_2 81 := inC rfl (by omega) (by omega)
        refine va_iald hx hb hK hP 1 0 rfl rfl b2 dX4_likeliest_15 ?_
        refine lv_aload_n hx hb dX4_likeliest_16 rfl (lv_at hl 0 rfl) ?_
        refine va_get (D := (dC, dI)) (ci := 4) (v := .ref pu1) (C := RX4) (T := TX4) (N := 2) hx hb hts inX4 hown hK hP 0 rfl rfl 0 (by decide) lf11 (fun _ h9 => h9) rfl dX4_likeliest_17 ?_
        refine lv_iload_n hx hb dX4_likeliest_20 rfl (lv_at hl 1 rfl) ?_
        have b3 : vp_in y4_1 81 := inC rfl (by omega) (by omega)
        refine va_iald hx hb hK hP 1 0 rfl rfl b3 dX4_likeliest_21 ?_
        refine lv_icmp_le (tgt := 27) hx hb dX4_likeliest_22 (by decide) (fun c4 => ?_) (fun c4 => ?_)
        · have dc4 : (agr y4_2.toNatClampNeg).toInt ≤ (agr y4_1.toNatClampNeg).toInt := leC rfl rfl c4
          obtain ⟨z5, ez5⟩ : ∃ y : Int32, y = y4_2 + 1 := ⟨_, rfl⟩
          have iz5 : z5.toInt = y4_2.toInt + 1 := by rw [ez5]; exact addC rfl rfl (by omega) (by omega)
          refine lv_iinc (v := z5) (lv' := [(2, .int z5), (0, .ref pu0), (1, .int y4_1)]) hx hb dX4_likeliest_27 hl (k := 2) rfl (by rw [ez5]; rfl) (by decide) rfl (fun ls hl => ?_)
          refine lv_goto (tgt := 4) hx hb dX4_likeliest_30 (by decide) ?_
          exact ih4 y4_1 z5 _ (by omega) (by omega) (by omega) (by omega) (by omega) (lv_sub hl [1, 2, 0] rfl)
        · have dc4 : (agr y4_1.toNatClampNeg).toInt < (agr y4_2.toNatClampNeg).toInt := nleC rfl rfl c4
          refine lv_iload_n hx hb dX4_likeliest_25 rfl (lv_at hl 2 rfl) ?_
          refine lv_istore_n (lv' := [(1, .int y4_2), (0, .ref pu0), (2, .int y4_2)]) hx hb dX4_likeliest_26 rfl hl (by decide) rfl (fun ls hl => ?_)
          obtain ⟨z6, ez6⟩ : ∃ y : Int32, y = y4_2 + 1 := ⟨_, rfl⟩
          have iz6 : z6.toInt = y4_2.toInt + 1 := by rw [ez6]; exact addC rfl rfl (by omega) (by omega)
          refine lv_iinc (v := z6) (lv' := [(2, .int z6), (1, .int y4_2), (0, .ref pu0)]) hx hb dX4_likeliest_27 hl (k := 2) rfl (by rw [ez6]; rfl) (by decide) rfl (fun ls hl => ?_)
          refine lv_goto (tgt := 4) hx hb dX4_likeliest_30 (by decide) ?_
          exact ih4 y4_2 z6 _ (by omega) (by omega) (by omega) (by omega) (by omega) (lv_sub hl [2, 1, 0] rfl)
  have kc7 : (0 : Int32).toInt = 0 := rfl
  have kc8 : (1 : Int32).toInt = 1 := rfl
  exact L4 _ 0 1 _ (by omega) (by omega) (by omega) (by omega) (Nat.lt_succ_self _) (lv_sub hl [2, 1, 0] rfl)
set_option maxHeartbeats 4000000 in
set_option maxRecDepth 100000 in
theorem k_X4_nameOfLikeliest (l : Launch) (dC : Nat → ClassId) (dI : Nat → Nat → Nat) (cI cZ cQ : ClassId) (pu0 : Nat) (pu1 : Nat) (agr : Nat → Int32) (ans : Int32) (r_ans : 0 ≤ ans.toInt ∧ ans.toInt ≤ 12) : KR l yX4_nameOfLikeliest wsX4_nameOfLikeliest { frames := 1, cells := 0, slots := 0, locals := 22 } (dC, dI) (TY cI cZ cQ) (wPup cI cZ cQ pu0 pu1 agr ans) [.ref pu0] (fun r : Int32 => True) := by
  refine Met.ofW (cc := cX4_nameOfLikeliest) (maxL := 2) (ret := (some .int)) (by decide) rfl ?_
  intro p e s m args below meth c s₁ B hml hv
  obtain ⟨rfl, hP, hK, hN⟩ := hv
  have hx := B.exec
  have hb := B.bytes
  have hr := B.returns
  have hts := atoms_spec (ws := wsX4_nameOfLikeliest) B.pre
  have hown : s.vm.findClass RX4 = some m.cls := findClass_of_methodNamed B.named
  have hlocks := B.notSynchronized
  have hl := lv_entry ([.ref pu0]) (n := 2) (Nat.le_of_ble_eq_true rfl)
  rw [lg_entry_eq]
  generalize (lg_sl ([.ref pu0]) ++ List.replicate (2 - (lg_sl ([.ref pu0])).length) Slot.unset).toArray = ls at hl ⊢
  have hl : lv_has ls 2 [(0, .ref pu0)] := hl
  refine lv_aload_n hx hb dX4_nameOfLikeliest_0 rfl (lv_at hl 0 rfl) ?_
  refine rdV (As := []) (rest := []) ⟨hx, hb, hml, hown, hts⟩ (k_X4_likeliest l dC dI cI cZ cQ pu0 pu1 agr ans r_ans) (cwV 0 hts gX4_nameOfLikeliest_X4_likeliest rfl rfl rfl (by decide +kernel) ⟨Nat.le_of_ble_eq_true rfl, Nat.le_of_ble_eq_true rfl⟩) hP hK hN [0, 1] rfl 0 4 rfl rfl rfl hl.1 rfl (Nat.le_of_ble_eq_true rfl) dX4_nameOfLikeliest_1 ⟨Nat.le_of_ble_eq_true rfl, Nat.le_of_ble_eq_true rfl⟩ (fun r1 h2 => ?_)
  have h2 : (0 ≤ r1.toInt) ∧ (r1.toInt ≤ 80) := h2
  obtain ⟨h2_0, h2_1⟩ := h2
  refine lv_istore_n (lv' := [(1, .int r1), (0, .ref pu0)]) hx hb dX4_nameOfLikeliest_4 rfl hl (by decide) rfl (fun ls hl => ?_)
  refine lv_bipush (v := 100) hx hb dX4_nameOfLikeliest_5 (by decide) ?_
  refine lv_iload_n hx hb dX4_nameOfLikeliest_7 rfl (lv_at hl 0 rfl) ?_
  refine rdS (As := [.int r1]) (rest := [.int 100]) ⟨hx, hb, hml, hown, hts⟩ (k_X4_lossOf l dC dI cI cZ cQ r1 (by omega) (by omega)) (va_cwS 1 hts gX4_nameOfLikeliest_X4_lossOf rfl rfl rfl (by decide +kernel) ⟨Nat.le_of_ble_eq_true rfl, Nat.le_of_ble_eq_true rfl⟩) hP hK hN [] rfl rfl hl.1 rfl (Nat.le_of_ble_eq_true rfl) dX4_nameOfLikeliest_8 ⟨Nat.le_of_ble_eq_true rfl, Nat.le_of_ble_eq_true rfl⟩ (fun r3 h4 => ?_)
  have h4 : (1 ≤ r3.toInt) ∧ (r3.toInt ≤ 9) := h4
  obtain ⟨h4_0, h4_1⟩ := h4
  refine lv_imul hx hb dX4_nameOfLikeliest_11 ?_
  have f5 : (100 * r3).toInt = (100) * (r3.toInt) := mulC (show (100 : Int32).toInt = 100 from rfl) rfl (by omega) (by omega)
  refine lv_iload_n hx hb dX4_nameOfLikeliest_12 rfl (lv_at hl 0 rfl) ?_
  refine rdS (As := [.int r1]) (rest := [.int (100 * r3)]) ⟨hx, hb, hml, hown, hts⟩ (k_X4_limitOf l dC dI cI cZ cQ r1 (by omega) (by omega)) (va_cwS 1 hts gX4_nameOfLikeliest_X4_limitOf rfl rfl rfl (by decide +kernel) ⟨Nat.le_of_ble_eq_true rfl, Nat.le_of_ble_eq_true rfl⟩) hP hK hN [] rfl rfl hl.1 rfl (Nat.le_of_ble_eq_true rfl) dX4_nameOfLikeliest_13 ⟨Nat.le_of_ble_eq_true rfl, Nat.le_of_ble_eq_true rfl⟩ (fun r6 h7 => ?_)
  have h7 : (10 ≤ r6.toInt) ∧ (r6.toInt ≤ 90) := h7
  obtain ⟨h7_0, h7_1⟩ := h7
  refine lv_iadd hx hb dX4_nameOfLikeliest_16 ?_
  have f8 : ((100 * r3) + r6).toInt = ((100) * (r3.toInt)) + (r6.toInt) := addC f5 rfl (by omega) (by omega)
  exact W.iret (v := (100 * r3) + r6) hx hb hr (fun t ht hW => ⟨(100 * r3) + r6, rfl, trivial, ht⟩) (fun q h => by cases h) dX4_nameOfLikeliest_17
set_option maxHeartbeats 4000000 in
set_option maxRecDepth 100000 in
theorem k_X4_agreementOfLikeliest (l : Launch) (dC : Nat → ClassId) (dI : Nat → Nat → Nat) (cI cZ cQ : ClassId) (pu0 : Nat) (pu1 : Nat) (agr : Nat → Int32) (ans : Int32) (r_ans : 0 ≤ ans.toInt ∧ ans.toInt ≤ 12) : KR l yX4_agreementOfLikeliest wsX4_agreementOfLikeliest { frames := 1, cells := 0, slots := 0, locals := 22 } (dC, dI) (TY cI cZ cQ) (wPup cI cZ cQ pu0 pu1 agr ans) [.ref pu0] (fun r : Int32 => True) := by
  refine Met.ofW (cc := cX4_agreementOfLikeliest) (maxL := 1) (ret := (some .int)) (by decide) rfl ?_
  intro p e s m args below meth c s₁ B hml hv
  obtain ⟨rfl, hP, hK, hN⟩ := hv
  have hx := B.exec
  have hb := B.bytes
  have hr := B.returns
  have hts := atoms_spec (ws := wsX4_agreementOfLikeliest) B.pre
  have hown : s.vm.findClass RX4 = some m.cls := findClass_of_methodNamed B.named
  have hlocks := B.notSynchronized
  have lf11 := hts (.fieldLink RX4 11 "PalaceOfRooms$Pupil" "agreement" "[I") (by decide +kernel)
  have inX4 : ∀ w ∈ wsX40, w ∈ wsX4_agreementOfLikeliest := by decide +kernel
  have hl := lv_entry ([.ref pu0]) (n := 1) (Nat.le_of_ble_eq_true rfl)
  rw [lg_entry_eq]
  generalize (lg_sl ([.ref pu0]) ++ List.replicate (1 - (lg_sl ([.ref pu0])).length) Slot.unset).toArray = ls at hl ⊢
  have hl : lv_has ls 1 [(0, .ref pu0)] := hl
  refine lv_aload_n hx hb dX4_agreementOfLikeliest_0 rfl (lv_at hl 0 rfl) ?_
  refine va_get (D := (dC, dI)) (ci := 4) (v := .ref pu1) (C := RX4) (T := TX4) (N := 2) hx hb hts inX4 hown hK hP 0 rfl rfl 0 (by decide) lf11 (fun _ h9 => h9) rfl dX4_agreementOfLikeliest_1 ?_
  refine lv_aload_n hx hb dX4_agreementOfLikeliest_4 rfl (lv_at hl 0 rfl) ?_
  refine rdV (As := []) (rest := [.ref pu1]) ⟨hx, hb, hml, hown, hts⟩ (k_X4_likeliest l dC dI cI cZ cQ pu0 pu1 agr ans r_ans) (cwV 0 hts gX4_agreementOfLikeliest_X4_likeliest rfl rfl rfl (by decide +kernel) ⟨Nat.le_of_ble_eq_true rfl, Nat.le_of_ble_eq_true rfl⟩) hP hK hN [0, 1] rfl 0 4 rfl rfl rfl hl.1 rfl (Nat.le_of_ble_eq_true rfl) dX4_agreementOfLikeliest_5 ⟨Nat.le_of_ble_eq_true rfl, Nat.le_of_ble_eq_true rfl⟩ (fun r1 h2 => ?_)
  have h2 : (0 ≤ r1.toInt) ∧ (r1.toInt ≤ 80) := h2
  obtain ⟨h2_0, h2_1⟩ := h2
  have b3 : vp_in r1 81 := inC rfl (by omega) (by omega)
  refine va_iald hx hb hK hP 1 0 rfl rfl b3 dX4_agreementOfLikeliest_8 ?_
  exact W.iret (v := agr r1.toNatClampNeg) hx hb hr (fun t ht hW => ⟨agr r1.toNatClampNeg, rfl, trivial, ht⟩) (fun q h => by cases h) dX4_agreementOfLikeliest_9
set_option maxHeartbeats 4000000 in
set_option maxRecDepth 100000 in
theorem k_X4_unlikeness (l : Launch) (dC : Nat → ClassId) (dI : Nat → Nat → Nat) (cI cZ cQ : ClassId) (pu0 : Nat) (pu1 : Nat) (agr : Nat → Int32) (ans : Int32) (dd : Int32) (r_ans : 0 ≤ ans.toInt ∧ ans.toInt ≤ 12) (q0 : 1 ≤ dd.toInt) (q1 : dd.toInt ≤ 60) : KR l yX4_unlikeness wsX4_unlikeness { frames := 2, cells := 0, slots := 0, locals := 41 } (dC, dI) (TY cI cZ cQ) (wPup cI cZ cQ pu0 pu1 agr ans) [.ref pu0, .int dd] (fun r : Int32 => True) := by
  refine Met.ofW (cc := cX4_unlikeness) (maxL := 4) (ret := (some .int)) (by decide) rfl ?_
  intro p e s m args below meth c s₁ B hml hv
  obtain ⟨rfl, hP, hK, hN⟩ := hv
  have hx := B.exec
  have hb := B.bytes
  have hr := B.returns
  have hts := atoms_spec (ws := wsX4_unlikeness) B.pre
  have hown : s.vm.findClass RX4 = some m.cls := findClass_of_methodNamed B.named
  have hlocks := B.notSynchronized
  have hl := lv_entry ([.ref pu0, .int dd]) (n := 4) (Nat.le_of_ble_eq_true rfl)
  rw [lg_entry_eq]
  generalize (lg_sl ([.ref pu0, .int dd]) ++ List.replicate (4 - (lg_sl ([.ref pu0, .int dd])).length) Slot.unset).toArray = ls at hl ⊢
  have hl : lv_has ls 4 [(0, .ref pu0), (1, .int dd)] := hl
  refine lv_iconst (v := 0) hx hb dX4_unlikeness_0 (by decide) ?_
  refine lv_istore_n (lv' := [(2, .int 0), (0, .ref pu0), (1, .int dd)]) hx hb dX4_unlikeness_1 rfl hl (by decide) rfl (fun ls hl => ?_)
  refine lv_iconst (v := 0) hx hb dX4_unlikeness_2 (by decide) ?_
  refine lv_istore_n (lv' := [(3, .int 0), (2, .int 0), (0, .ref pu0), (1, .int dd)]) hx hb dX4_unlikeness_3 rfl hl (by decide) rfl (fun ls hl => ?_)
  have L4 : ∀ (nn : Nat) (y4_2 : Int32) (y4_3 : Int32) (ls : Array Slot), (0 ≤ (y4_3.toInt)) → ((y4_3.toInt) ≤ 81) → (81 - (y4_3.toInt)).toNat < nn → lv_has ls 4 [(0, .ref pu0), (1, .int dd), (2, .int y4_2), (3, .int y4_3)] → W p l e (headSpec wsX4_unlikeness { frames := 2, cells := 0, slots := 0, locals := 41 }).room s m ([.ref pu0, .int dd] : List Value).toArray below meth c s.heap [] 0 0 (MQ below (QR (fun r : Int32 => True)) ([.ref pu0, .int dd] : List Value).toArray s 0 0 (fun _ => False)) (F0 m 4 ls []) := by
    intro nn
    induction nn with
    | zero =>
      intro y4_2 y4_3 ls i4_0 i4_1 hm
      exact absurd hm (Nat.not_lt_zero _)
    | succ nn ih4 =>
      intro y4_2 y4_3 ls i4_0 i4_1 hm hl
      refine lv_iload_n hx hb dX4_unlikeness_4 rfl (lv_at hl 3 rfl) ?_
      refine lv_bipush (v := 81) hx hb dX4_unlikeness_5 (by decide) ?_
      refine lv_icmp_ge (tgt := 40) hx hb dX4_unlikeness_7 (by decide) (fun c1 => ?_) (fun c1 => ?_)
      · have dc1 : 81 ≤ y4_3.toInt := leC (show (81 : Int32).toInt = 81 from rfl) rfl c1
        refine lv_iload_n hx hb dX4_unlikeness_40 rfl (lv_at hl 2 rfl) ?_
        refine va_mabs hx hb (by rw [hml]; exact hl.1.symm) hown (hts (.methodLink RX4 44 Lib.Math.abs.name) (by decide +kernel)) (hts (.static Lib.Math.abs.name) (by decide +kernel)) (hts (.initialized "java/lang/Math") (by decide +kernel)) (hts (.code Lib.Math.abs.name Lib.Math.abs.code 1 (some .int)) (by decide +kernel)) (Nat.le_of_ble_eq_true rfl) (Nat.le_of_ble_eq_true rfl) (Nat.le_of_ble_eq_true rfl) (Nat.le_of_ble_eq_true rfl) dX4_unlikeness_41 ?_
        refine lv_topi (fun x2 ex2 => ?_)
        have ix2 : x2.toInt = (if 0 ≤ y4_2 then y4_2 else 0 - y4_2).toInt := by rw [ex2]
        exact W.iret (v := x2) hx hb hr (fun t ht hW => ⟨x2, rfl, trivial, ht⟩) (fun q h => by cases h) dX4_unlikeness_44
      · have dc1 : y4_3.toInt < 81 := nleC (show (81 : Int32).toInt = 81 from rfl) rfl c1
        refine lv_aload_n hx hb dX4_unlikeness_10 rfl (lv_at hl 0 rfl) ?_
        refine lv_iload_n hx hb dX4_unlikeness_11 rfl (lv_at hl 3 rfl) ?_
        refine rdV (As := [.int y4_3]) (rest := []) ⟨hx, hb, hml, hown, hts⟩ (k_X4_mayBe l dC dI cI cZ cQ pu0 pu1 agr ans y4_3 r_ans (by omega) (by omega)) (cwV 1 hts gX4_unlikeness_X4_mayBe rfl rfl rfl (by decide +kernel) ⟨Nat.le_of_ble_eq_true rfl, Nat.le_of_ble_eq_true rfl⟩) hP hK hN [0, 1] rfl 0 4 rfl rfl rfl hl.1 rfl (Nat.le_of_ble_eq_true rfl) dX4_unlikeness_12 ⟨Nat.le_of_ble_eq_true rfl, Nat.le_of_ble_eq_true rfl⟩ (fun r3 h4 => ?_)
        have h4 : ((((r3 = 1)) ∨ ((r3 = 0)))) := h4
        rcases h4 with (rfl | rfl)
        · refine lv_if_eq (tgt := 34) hx hb dX4_unlikeness_15 (by decide) (fun c9 => absurd c9 (by decide)) (fun _ => ?_)
          refine lv_iload_n hx hb dX4_unlikeness_18 rfl (lv_at hl 2 rfl) ?_
          refine lv_iload_n hx hb dX4_unlikeness_19 rfl (lv_at hl 3 rfl) ?_
          refine lv_iload_n hx hb dX4_unlikeness_20 rfl (lv_at hl 1 rfl) ?_
          refine rdS (As := [.int y4_3, .int dd]) (rest := [.int y4_2]) ⟨hx, hb, hml, hown, hts⟩ (k_X4_saysRight l dC dI cI cZ cQ y4_3 dd (by omega) (by omega) (by omega) (by omega)) (va_cwS 2 hts gX4_unlikeness_X4_saysRight rfl rfl rfl (by decide +kernel) ⟨Nat.le_of_ble_eq_true rfl, Nat.le_of_ble_eq_true rfl⟩) hP hK hN [] rfl rfl hl.1 rfl (Nat.le_of_ble_eq_true rfl) dX4_unlikeness_21 ⟨Nat.le_of_ble_eq_true rfl, Nat.le_of_ble_eq_true rfl⟩ (fun r5 h6 => ?_)
          have h6 : ((((r5 = 1)) ∨ ((r5 = 0)))) := h6
          rcases h6 with (rfl | rfl)
          · refine lv_if_eq (tgt := 31) hx hb dX4_unlikeness_24 (by decide) (fun c9 => absurd c9 (by decide)) (fun _ => ?_)
            refine lv_iconst (v := 1) hx hb dX4_unlikeness_27 (by decide) ?_
            refine lv_goto (tgt := 32) hx hb dX4_unlikeness_28 (by decide) ?_
            refine lv_iadd hx hb dX4_unlikeness_32 ?_
            refine lv_topi (fun x7 ex7 => ?_)
            have ix7 : x7.toInt = (y4_2 + 1).toInt := by rw [ex7]
            refine lv_istore_n (lv' := [(2, .int x7), (0, .ref pu0), (1, .int dd), (3, .int y4_3)]) hx hb dX4_unlikeness_33 rfl hl (by decide) rfl (fun ls hl => ?_)
            obtain ⟨z8, ez8⟩ : ∃ y : Int32, y = y4_3 + 1 := ⟨_, rfl⟩
            have iz8 : z8.toInt = y4_3.toInt + 1 := by rw [ez8]; exact addC rfl rfl (by omega) (by omega)
            refine lv_iinc (v := z8) (lv' := [(3, .int z8), (2, .int x7), (0, .ref pu0), (1, .int dd)]) hx hb dX4_unlikeness_34 hl (k := 3) rfl (by rw [ez8]; rfl) (by decide) rfl (fun ls hl => ?_)
            refine lv_goto (tgt := 4) hx hb dX4_unlikeness_37 (by decide) ?_
            exact ih4 x7 z8 _ (by omega) (by omega) (by omega) (lv_sub hl [2, 3, 1, 0] rfl)
          · refine lv_if_eq (tgt := 31) hx hb dX4_unlikeness_24 (by decide) (fun _ => ?_) (fun c9 => absurd (by decide) c9)
            refine lv_iconst (v := (-1)) hx hb dX4_unlikeness_31 (by decide) ?_
            refine lv_iadd hx hb dX4_unlikeness_32 ?_
            refine lv_topi (fun x9 ex9 => ?_)
            have ix9 : x9.toInt = (y4_2 + (-1)).toInt := by rw [ex9]
            refine lv_istore_n (lv' := [(2, .int x9), (0, .ref pu0), (1, .int dd), (3, .int y4_3)]) hx hb dX4_unlikeness_33 rfl hl (by decide) rfl (fun ls hl => ?_)
            obtain ⟨z10, ez10⟩ : ∃ y : Int32, y = y4_3 + 1 := ⟨_, rfl⟩
            have iz10 : z10.toInt = y4_3.toInt + 1 := by rw [ez10]; exact addC rfl rfl (by omega) (by omega)
            refine lv_iinc (v := z10) (lv' := [(3, .int z10), (2, .int x9), (0, .ref pu0), (1, .int dd)]) hx hb dX4_unlikeness_34 hl (k := 3) rfl (by rw [ez10]; rfl) (by decide) rfl (fun ls hl => ?_)
            refine lv_goto (tgt := 4) hx hb dX4_unlikeness_37 (by decide) ?_
            exact ih4 x9 z10 _ (by omega) (by omega) (by omega) (lv_sub hl [2, 3, 1, 0] rfl)
        · refine lv_if_eq (tgt := 34) hx hb dX4_unlikeness_15 (by decide) (fun _ => ?_) (fun c9 => absurd (by decide) c9)
          obtain ⟨z11, ez11⟩ : ∃ y : Int32, y = y4_3 + 1 := ⟨_, rfl⟩
          have iz11 : z11.toInt = y4_3.toInt + 1 := by rw [ez11]; exact addC rfl rfl (by omega) (by omega)
          refine lv_iinc (v := z11) (lv' := [(3, .int z11), (0, .ref pu0), (1, .int dd), (2, .int y4_2)]) hx hb dX4_unlikeness_34 hl (k := 3) rfl (by rw [ez11]; rfl) (by decide) rfl (fun ls hl => ?_)
          refine lv_goto (tgt := 4) hx hb dX4_unlikeness_37 (by decide) ?_
          exact ih4 y4_2 z11 _ (by omega) (by omega) (by omega) (lv_sub hl [1, 2, 3, 0] rfl)
  have kc12 : (0 : Int32).toInt = 0 := rfl
  exact L4 _ 0 0 _ (by omega) (by omega) (Nat.lt_succ_self _) (lv_sub hl [2, 3, 1, 0] rfl)
set_option maxHeartbeats 4000000 in
set_option maxRecDepth 100000 in
theorem k_X4_dayThatParts (l : Launch) (dC : Nat → ClassId) (dI : Nat → Nat → Nat) (cI cZ cQ : ClassId) (pu0 : Nat) (pu1 : Nat) (agr : Nat → Int32) (ans : Int32) (r_ans : 0 ≤ ans.toInt ∧ ans.toInt ≤ 12) : KR l yX4_dayThatParts wsX4_dayThatParts { frames := 3, cells := 0, slots := 0, locals := 64 } (dC, dI) (TY cI cZ cQ) (wPup cI cZ cQ pu0 pu1 agr ans) [.ref pu0] (fun r : Int32 => True) := by
  refine Met.ofW (cc := cX4_dayThatParts) (maxL := 5) (ret := (some .int)) (by decide) rfl ?_
  intro p e s m args below meth c s₁ B hml hv
  obtain ⟨rfl, hP, hK, hN⟩ := hv
  have hx := B.exec
  have hb := B.bytes
  have hr := B.returns
  have hts := atoms_spec (ws := wsX4_dayThatParts) B.pre
  have hown : s.vm.findClass RX4 = some m.cls := findClass_of_methodNamed B.named
  have hlocks := B.notSynchronized
  have hl := lv_entry ([.ref pu0]) (n := 5) (Nat.le_of_ble_eq_true rfl)
  rw [lg_entry_eq]
  generalize (lg_sl ([.ref pu0]) ++ List.replicate (5 - (lg_sl ([.ref pu0])).length) Slot.unset).toArray = ls at hl ⊢
  have hl : lv_has ls 5 [(0, .ref pu0)] := hl
  refine lv_aload_n hx hb dX4_dayThatParts_0 rfl (lv_at hl 0 rfl) ?_
  refine rdV (As := []) (rest := []) ⟨hx, hb, hml, hown, hts⟩ (k_X4_tablesThatMayBe l dC dI cI cZ cQ pu0 pu1 agr ans r_ans) (cwV 0 hts gX4_dayThatParts_X4_tablesThatMayBe rfl rfl rfl (by decide +kernel) ⟨Nat.le_of_ble_eq_true rfl, Nat.le_of_ble_eq_true rfl⟩) hP hK hN [0, 1] rfl 0 4 rfl rfl rfl hl.1 rfl (Nat.le_of_ble_eq_true rfl) dX4_dayThatParts_1 ⟨Nat.le_of_ble_eq_true rfl, Nat.le_of_ble_eq_true rfl⟩ (fun r1 h2 => ?_)
  have h2 : True := h2
  refine lv_if_ne (tgt := 9) hx hb dX4_dayThatParts_4 (by decide) (fun c3 => ?_) (fun c3 => ?_)
  · have dc3 : r1.toInt ≠ 0 := neC rfl (show (0 : Int32).toInt = 0 from rfl) c3
    refine lv_iconst (v := (-1)) hx hb dX4_dayThatParts_9 (by decide) ?_
    refine lv_istore_n (lv' := [(1, .int (-1)), (0, .ref pu0)]) hx hb dX4_dayThatParts_10 rfl hl (by decide) rfl (fun ls hl => ?_)
    refine lv_bipush (v := 82) hx hb dX4_dayThatParts_11 (by decide) ?_
    refine lv_istore_n (lv' := [(2, .int 82), (1, .int (-1)), (0, .ref pu0)]) hx hb dX4_dayThatParts_13 rfl hl (by decide) rfl (fun ls hl => ?_)
    refine lv_iconst (v := 1) hx hb dX4_dayThatParts_14 (by decide) ?_
    refine lv_istore_n (lv' := [(3, .int 1), (2, .int 82), (1, .int (-1)), (0, .ref pu0)]) hx hb dX4_dayThatParts_15 rfl hl (by decide) rfl (fun ls hl => ?_)
    have L16 : ∀ (nn : Nat) (y16_1 : Int32) (y16_2 : Int32) (y16_3 : Int32) (ls : Array Slot), (1 ≤ (y16_3.toInt)) → ((y16_3.toInt) ≤ 61) → (61 - (y16_3.toInt)).toNat < nn → lv_has ls 5 [(0, .ref pu0), (1, .int y16_1), (2, .int y16_2), (3, .int y16_3)] → W p l e (headSpec wsX4_dayThatParts { frames := 3, cells := 0, slots := 0, locals := 64 }).room s m ([.ref pu0] : List Value).toArray below meth c s.heap [] 0 0 (MQ below (QR (fun r : Int32 => True)) ([.ref pu0] : List Value).toArray s 0 0 (fun _ => False)) (F0 m 16 ls []) := by
      intro nn
      induction nn with
      | zero =>
        intro y16_1 y16_2 y16_3 ls i16_0 i16_1 hm
        exact absurd hm (Nat.not_lt_zero _)
      | succ nn ih16 =>
        intro y16_1 y16_2 y16_3 ls i16_0 i16_1 hm hl
        refine lv_iload_n hx hb dX4_dayThatParts_16 rfl (lv_at hl 3 rfl) ?_
        refine lv_bipush (v := 60) hx hb dX4_dayThatParts_17 (by decide) ?_
        refine lv_icmp_gt (tgt := 46) hx hb dX4_dayThatParts_19 (by decide) (fun c4 => ?_) (fun c4 => ?_)
        · have dc4 : 60 < y16_3.toInt := ltC (show (60 : Int32).toInt = 60 from rfl) rfl c4
          refine lv_iload_n hx hb dX4_dayThatParts_46 rfl (lv_at hl 1 rfl) ?_
          exact W.iret (v := y16_1) hx hb hr (fun t ht hW => ⟨y16_1, rfl, trivial, ht⟩) (fun q h => by cases h) dX4_dayThatParts_47
        · have dc4 : y16_3.toInt ≤ 60 := nltC (show (60 : Int32).toInt = 60 from rfl) rfl c4
          refine lv_aload_n hx hb dX4_dayThatParts_22 rfl (lv_at hl 0 rfl) ?_
          refine lv_iload_n hx hb dX4_dayThatParts_23 rfl (lv_at hl 3 rfl) ?_
          refine rdV (As := [.int y16_3]) (rest := []) ⟨hx, hb, hml, hown, hts⟩ (k_X4_unlikeness l dC dI cI cZ cQ pu0 pu1 agr ans y16_3 r_ans (by omega) (by omega)) (cwV 1 hts gX4_dayThatParts_X4_unlikeness rfl rfl rfl (by decide +kernel) ⟨Nat.le_of_ble_eq_true rfl, Nat.le_of_ble_eq_true rfl⟩) hP hK hN [0, 1] rfl 0 4 rfl rfl rfl hl.1 rfl (Nat.le_of_ble_eq_true rfl) dX4_dayThatParts_24 ⟨Nat.le_of_ble_eq_true rfl, Nat.le_of_ble_eq_true rfl⟩ (fun r5 h6 => ?_)
          have h6 : True := h6
          refine lv_istore (lv' := [(4, .int r5), (0, .ref pu0), (1, .int y16_1), (2, .int y16_2), (3, .int y16_3)]) hx hb dX4_dayThatParts_27 hl (by decide) rfl (fun ls hl => ?_)
          refine lv_iload hx hb dX4_dayThatParts_29 (lv_at hl 0 rfl) ?_
          refine lv_iload_n hx hb dX4_dayThatParts_31 rfl (lv_at hl 3 rfl) ?_
          refine lv_icmp_ge (tgt := 40) hx hb dX4_dayThatParts_32 (by decide) (fun c7 => ?_) (fun c7 => ?_)
          · have dc7 : y16_2.toInt ≤ r5.toInt := leC rfl rfl c7
            obtain ⟨z8, ez8⟩ : ∃ y : Int32, y = y16_3 + 1 := ⟨_, rfl⟩
            have iz8 : z8.toInt = y16_3.toInt + 1 := by rw [ez8]; exact addC rfl rfl (by omega) (by omega)
            refine lv_iinc (v := z8) (lv' := [(3, .int z8), (4, .int r5), (0, .ref pu0), (1, .int y16_1), (2, .int y16_2)]) hx hb dX4_dayThatParts_40 hl (k := 4) rfl (by rw [ez8]; rfl) (by decide) rfl (fun ls hl => ?_)
            refine lv_goto (tgt := 16) hx hb dX4_dayThatParts_43 (by decide) ?_
            exact ih16 y16_1 y16_2 z8 _ (by omega) (by omega) (by omega) (lv_sub hl [2, 3, 4, 0] rfl)
          · have dc7 : r5.toInt < y16_2.toInt := nleC rfl rfl c7
            refine lv_iload hx hb dX4_dayThatParts_35 (lv_at hl 0 rfl) ?_
            refine lv_istore_n (lv' := [(2, .int r5), (4, .int r5), (0, .ref pu0), (1, .int y16_1), (3, .int y16_3)]) hx hb dX4_dayThatParts_37 rfl hl (by decide) rfl (fun ls hl => ?_)
            refine lv_iload_n hx hb dX4_dayThatParts_38 rfl (lv_at hl 4 rfl) ?_
            refine lv_istore_n (lv' := [(1, .int y16_3), (2, .int r5), (4, .int r5), (0, .ref pu0), (3, .int y16_3)]) hx hb dX4_dayThatParts_39 rfl hl (by decide) rfl (fun ls hl => ?_)
            obtain ⟨z9, ez9⟩ : ∃ y : Int32, y = y16_3 + 1 := ⟨_, rfl⟩
            have iz9 : z9.toInt = y16_3.toInt + 1 := by rw [ez9]; exact addC rfl rfl (by omega) (by omega)
            refine lv_iinc (v := z9) (lv' := [(3, .int z9), (1, .int y16_3), (2, .int r5), (4, .int r5), (0, .ref pu0)]) hx hb dX4_dayThatParts_40 hl (k := 4) rfl (by rw [ez9]; rfl) (by decide) rfl (fun ls hl => ?_)
            refine lv_goto (tgt := 16) hx hb dX4_dayThatParts_43 (by decide) ?_
            exact ih16 y16_3 r5 z9 _ (by omega) (by omega) (by omega) (lv_sub hl [4, 1, 2, 0] rfl)
    have kc10 : ((-1) : Int32).toInt = -1 := rfl
    have kc11 : (82 : Int32).toInt = 82 := rfl
    have kc12 : (1 : Int32).toInt = 1 := rfl
    exact L16 _ (-1) 82 1 _ (by omega) (by omega) (Nat.lt_succ_self _) (lv_sub hl [3, 2, 1, 0] rfl)
  · have dc3 : r1.toInt = 0 := eqC rfl (show (0 : Int32).toInt = 0 from rfl) c3
    refine lv_iconst (v := (-1)) hx hb dX4_dayThatParts_7 (by decide) ?_
    exact W.iret (v := (-1)) hx hb hr (fun t ht hW => ⟨(-1), rfl, trivial, ht⟩) (fun q h => by cases h) dX4_dayThatParts_8
