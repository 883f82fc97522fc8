theorem dX9_rules_24 : decode cX9_rules 24 = .ok (.aload_n 0, 1) := by decide +kernel
theorem dX9_rules_25 : decode cX9_rules 25 = .ok (.getfield 76, 3) := by decide +kernel
theorem dX9_rules_28 : decode cX9_rules 28 = .ok (.putfield 80, 3) := by decide +kernel
theorem dX9_rules_31 : decode cX9_rules 31 = .ok (.aload_n 0, 1) := by decide +kernel
theorem dX9_rules_32 : decode cX9_rules 32 = .ok (.aload_n 1, 1) := by decide +kernel
theorem dX9_rules_33 : decode cX9_rules 33 = .ok (.putfield 76, 3) := by decide +kernel
theorem dX9_rules_36 : decode cX9_rules 36 = .ok (.aload_n 0, 1) := by decide +kernel
theorem dX9_rules_37 : decode cX9_rules 37 = .ok (.getfield 35, 3) := by decide +kernel
theorem dX9_rules_40 : decode cX9_rules 40 = .ok (.iconst 0, 1) := by decide +kernel
theorem dX9_rules_41 : decode cX9_rules 41 = .ok (.putfield 163, 3) := by decide +kernel
theorem dX9_rules_44 : decode cX9_rules 44 = .ok (.aload_n 0, 1) := by decide +kernel
theorem dX9_rules_45 : decode cX9_rules 45 = .ok (.getfield 76, 3) := by decide +kernel
theorem dX9_rules_48 : decode cX9_rules 48 = .ok (.getfield 174, 3) := by decide +kernel
theorem dX9_rules_51 : decode cX9_rules 51 = .ok (.ireturn, 1) := by decide +kernel
set_option maxRecDepth 20000 in
theorem ggX9_bars_X9_isThing : GoodIn wsX9_bars wsX9_isThing := goodIn_r _ [4, 5, 6, 3, 7] rfl (by decide +kernel)
set_option maxRecDepth 20000 in
theorem gX9_bars_X9_isThing : GoodIn wsX9_bars (va_wsS RX9 103 yX9_isThing wsX9_isThing) := goodIn_app (goodIn_of _ (by decide +kernel)) ggX9_bars_X9_isThing
set_option maxRecDepth 20000 in
theorem ggX9_bars_X9_isCorner : GoodIn wsX9_bars wsX9_isCorner := goodIn_r _ [10, 5, 6, 3, 7] rfl (by decide +kernel)
set_option maxRecDepth 20000 in
theorem gX9_bars_X9_isCorner : GoodIn wsX9_bars (va_wsS RX9 125 yX9_isCorner wsX9_isCorner) := goodIn_app (goodIn_of _ (by decide +kernel)) ggX9_bars_X9_isCorner
set_option maxRecDepth 20000 in
theorem ggX9_bars_X9_barredByRoom : GoodIn wsX9_bars wsX9_barredByRoom := goodIn_r _ [14, 15, 16, 17, 18, 19, 20, 21, 22, 49, 50, 51, 52, 53, 54, 55, 56, 57, 58, 59, 60, 61, 62, 63, 64, 65, 66, 67, 68, 69, 70, 71, 72, 73, 74, 75, 76, 77] rfl (by decide +kernel)
set_option maxRecDepth 20000 in
theorem gX9_bars_X9_barredByRoom : GoodIn wsX9_bars (wsV RX9 177 RX9 yX9_barredByRoom wsX9_barredByRoom) := goodIn_app (goodIn_of _ (by decide +kernel)) ggX9_bars_X9_barredByRoom
set_option maxRecDepth 20000 in
theorem ggX9_bars_X9_barredByAgain : GoodIn wsX9_bars wsX9_barredByAgain := goodIn_r _ [26, 16, 15, 49, 50, 51, 52, 53, 54, 55, 56, 57, 58, 59, 65, 66, 67, 68, 69, 70, 71, 72, 73, 74, 75, 76, 77, 60, 61, 62, 63, 64] rfl (by decide +kernel)
set_option maxRecDepth 20000 in
theorem gX9_bars_X9_barredByAgain : GoodIn wsX9_bars (wsV RX9 180 RX9 yX9_barredByAgain wsX9_barredByAgain) := goodIn_app (goodIn_of _ (by decide +kernel)) ggX9_bars_X9_barredByAgain
set_option maxRecDepth 20000 in
theorem ggX9_bars_X9_barredByApart : GoodIn wsX9_bars wsX9_barredByApart := goodIn_r _ [30, 15, 16, 31, 32, 33, 3, 34, 35, 36, 37, 38, 39, 40, 41, 42, 43, 44, 45, 46, 47, 48, 49, 50, 51, 52, 53, 54, 55, 56, 57, 58, 59, 60, 61, 62, 63, 64, 65, 66, 67, 68, 69, 70, 71, 72, 73, 74, 75, 76, 77, 78] rfl (by decide +kernel)
set_option maxRecDepth 20000 in
theorem gX9_bars_X9_barredByApart : GoodIn wsX9_bars (wsV RX9 183 RX9 yX9_barredByApart wsX9_barredByApart) := goodIn_app (goodIn_of _ (by decide +kernel)) ggX9_bars_X9_barredByApart
theorem dX9_bars_0 : decode cX9_bars 0 = .ok (.iload_n 1, 1) := by decide +kernel
theorem dX9_bars_1 : decode cX9_bars 1 = .ok (.invokestatic 103, 3) := by decide +kernel
theorem dX9_bars_4 : decode cX9_bars 4 = .ok (.ifCond .eq 10, 3) := by decide +kernel
theorem dX9_bars_7 : decode cX9_bars 7 = .ok (.iload_n 2, 1) := by decide +kernel
theorem dX9_bars_8 : decode cX9_bars 8 = .ok (.invokestatic 125, 3) := by decide +kernel
theorem dX9_bars_11 : decode cX9_bars 11 = .ok (.ifCond .ne 6, 3) := by decide +kernel
theorem dX9_bars_14 : decode cX9_bars 14 = .ok (.bipush (-2), 2) := by decide +kernel
theorem dX9_bars_16 : decode cX9_bars 16 = .ok (.ireturn, 1) := by decide +kernel
theorem dX9_bars_17 : decode cX9_bars 17 = .ok (.iconst 0, 1) := by decide +kernel
theorem dX9_bars_18 : decode cX9_bars 18 = .ok (.istore_n 3, 1) := by decide +kernel
theorem dX9_bars_19 : decode cX9_bars 19 = .ok (.aload_n 0, 1) := by decide +kernel
theorem dX9_bars_20 : decode cX9_bars 20 = .ok (.iload_n 2, 1) := by decide +kernel
theorem dX9_bars_21 : decode cX9_bars 21 = .ok (.invokevirtual 177, 3) := by decide +kernel
theorem dX9_bars_24 : decode cX9_bars 24 = .ok (.ifCond .eq 6, 3) := by decide +kernel
theorem dX9_bars_27 : decode cX9_bars 27 = .ok (.iinc 3 1, 3) := by decide +kernel
theorem dX9_bars_30 : decode cX9_bars 30 = .ok (.aload_n 0, 1) := by decide +kernel
theorem dX9_bars_31 : decode cX9_bars 31 = .ok (.iload_n 2, 1) := by decide +kernel
theorem dX9_bars_32 : decode cX9_bars 32 = .ok (.invokevirtual 180, 3) := by decide +kernel
theorem dX9_bars_35 : decode cX9_bars 35 = .ok (.ifCond .eq 6, 3) := by decide +kernel
theorem dX9_bars_38 : decode cX9_bars 38 = .ok (.iinc 3 2, 3) := by decide +kernel
theorem dX9_bars_41 : decode cX9_bars 41 = .ok (.aload_n 0, 1) := by decide +kernel
theorem dX9_bars_42 : decode cX9_bars 42 = .ok (.iload_n 1, 1) := by decide +kernel
theorem dX9_bars_43 : decode cX9_bars 43 = .ok (.iload_n 2, 1) := by decide +kernel
theorem dX9_bars_44 : decode cX9_bars 44 = .ok (.invokevirtual 183, 3) := by decide +kernel
theorem dX9_bars_47 : decode cX9_bars 47 = .ok (.ifCond .eq 6, 3) := by decide +kernel
theorem dX9_bars_50 : decode cX9_bars 50 = .ok (.iinc 3 4, 3) := by decide +kernel
theorem dX9_bars_53 : decode cX9_bars 53 = .ok (.iload_n 3, 1) := by decide +kernel
theorem dX9_bars_54 : decode cX9_bars 54 = .ok (.ireturn, 1) := by decide +kernel
set_option maxRecDepth 20000 in
theorem ggX9_due_X9_isDue : GoodIn wsX9_due wsX9_isDue := goodIn_r _ [5, 6, 7, 8, 9, 10, 11, 12, 13, 14, 15, 16, 17, 18, 19, 20, 21, 22, 23, 24, 25, 26, 27, 28, 29, 30, 31, 32, 33, 34, 35, 36] rfl (by decide +kernel)
set_option maxRecDepth 20000 in
theorem gX9_due_X9_isDue : GoodIn wsX9_due (wsV RX9 186 RX9 yX9_isDue wsX9_isDue) := goodIn_app (goodIn_of _ (by decide +kernel)) ggX9_due_X9_isDue
theorem dX9_due_0 : decode cX9_due 0 = .ok (.iconst 0, 1) := by decide +kernel
theorem dX9_due_1 : decode cX9_due 1 = .ok (.istore_n 1, 1) := by decide +kernel
theorem dX9_due_2 : decode cX9_due 2 = .ok (.iconst 0, 1) := by decide +kernel
theorem dX9_due_3 : decode cX9_due 3 = .ok (.istore_n 2, 1) := by decide +kernel
theorem dX9_due_4 : decode cX9_due 4 = .ok (.iload_n 2, 1) := by decide +kernel
theorem dX9_due_5 : decode cX9_due 5 = .ok (.bipush 8, 2) := by decide +kernel
theorem dX9_due_7 : decode cX9_due 7 = .ok (.if_icmp .ge 23, 3) := by decide +kernel
theorem dX9_due_10 : decode cX9_due 10 = .ok (.aload_n 0, 1) := by decide +kernel
theorem dX9_due_11 : decode cX9_due 11 = .ok (.iload_n 2, 1) := by decide +kernel
theorem dX9_due_12 : decode cX9_due 12 = .ok (.invokevirtual 186, 3) := by decide +kernel
theorem dX9_due_15 : decode cX9_due 15 = .ok (.ifCond .eq 9, 3) := by decide +kernel
theorem dX9_due_18 : decode cX9_due 18 = .ok (.iload_n 1, 1) := by decide +kernel
theorem dX9_due_19 : decode cX9_due 19 = .ok (.iconst 1, 1) := by decide +kernel
theorem dX9_due_20 : decode cX9_due 20 = .ok (.iload_n 2, 1) := by decide +kernel
theorem dX9_due_21 : decode cX9_due 21 = .ok (.ishl, 1) := by decide +kernel
theorem dX9_due_22 : decode cX9_due 22 = .ok (.ior, 1) := by decide +kernel
theorem dX9_due_23 : decode cX9_due 23 = .ok (.istore_n 1, 1) := by decide +kernel
theorem dX9_due_24 : decode cX9_due 24 = .ok (.iinc 2 1, 3) := by decide +kernel
theorem dX9_due_27 : decode cX9_due 27 = .ok (.goto (-23), 3) := by decide +kernel
theorem dX9_due_30 : decode cX9_due 30 = .ok (.iload_n 1, 1) := by decide +kernel
theorem dX9_due_31 : decode cX9_due 31 = .ok (.ireturn, 1) := by decide +kernel
set_option maxRecDepth 20000 in
theorem ggX9_laid_X9_rowRefusal : GoodIn wsX9_laid wsX9_rowRefusal := goodIn_r _ [7, 8, 9, 10, 11, 2, 12, 13, 6, 14, 15, 16, 17, 18, 19, 20, 21, 73, 74, 75, 76, 77, 78, 79, 80, 81, 82, 83] rfl (by decide +kernel)
set_option maxRecDepth 20000 in
theorem gX9_laid_X9_rowRefusal : GoodIn wsX9_laid (wsV RX9 189 RX9 yX9_rowRefusal wsX9_rowRefusal) := goodIn_app (goodIn_of _ (by decide +kernel)) ggX9_laid_X9_rowRefusal
set_option maxRecDepth 20000 in
theorem ggX9_laid_X6_layOut : GoodIn wsX9_laid wsX6_layOut := goodIn_r _ [26, 27, 28, 29, 25, 30, 31, 32, 33, 34, 35, 36, 37, 38, 39, 40, 41, 42, 43, 44, 45, 46, 47, 48, 49, 50, 51, 52, 53, 54, 55, 56, 57, 58, 59, 60, 61, 62, 63, 64, 65, 66, 67, 68, 69, 70, 71, 72, 84, 85, 86, 87, 88, 89] rfl (by decide +kernel)
set_option maxRecDepth 20000 in
theorem gX9_laid_X6_layOut : GoodIn wsX9_laid (wsV RX9 193 RX6 yX6_layOut wsX6_layOut) := goodIn_app (goodIn_of _ (by decide +kernel)) ggX9_laid_X6_layOut
theorem dX9_laid_0 : decode cX9_laid 0 = .ok (.aload_n 0, 1) := by decide +kernel
theorem dX9_laid_1 : decode cX9_laid 1 = .ok (.lload_n 1, 1) := by decide +kernel
theorem dX9_laid_2 : decode cX9_laid 2 = .ok (.iload_n 3, 1) := by decide +kernel
theorem dX9_laid_3 : decode cX9_laid 3 = .ok (.iload 4, 2) := by decide +kernel
theorem dX9_laid_5 : decode cX9_laid 5 = .ok (.iconst 1, 1) := by decide +kernel
theorem dX9_laid_6 : decode cX9_laid 6 = .ok (.bipush 8, 2) := by decide +kernel
theorem dX9_laid_8 : decode cX9_laid 8 = .ok (.invokevirtual 189, 3) := by decide +kernel
theorem dX9_laid_11 : decode cX9_laid 11 = .ok (.istore 5, 2) := by decide +kernel
theorem dX9_laid_13 : decode cX9_laid 13 = .ok (.iload 5, 2) := by decide +kernel
theorem dX9_laid_15 : decode cX9_laid 15 = .ok (.ifCond .eq 6, 3) := by decide +kernel
theorem dX9_laid_18 : decode cX9_laid 18 = .ok (.iload 5, 2) := by decide +kernel
theorem dX9_laid_20 : decode cX9_laid 20 = .ok (.ireturn, 1) := by decide +kernel
theorem dX9_laid_21 : decode cX9_laid 21 = .ok (.iload 4, 2) := by decide +kernel
theorem dX9_laid_23 : decode cX9_laid 23 = .ok (.iload_n 3, 1) := by decide +kernel
theorem dX9_laid_24 : decode cX9_laid 24 = .ok (.if_icmp .lt 5, 3) := by decide +kernel
theorem dX9_laid_27 : decode cX9_laid 27 = .ok (.iconst (-1), 1) := by decide +kernel
theorem dX9_laid_28 : decode cX9_laid 28 = .ok (.ireturn, 1) := by decide +kernel
theorem dX9_laid_29 : decode cX9_laid 29 = .ok (.aload_n 0, 1) := by decide +kernel
theorem dX9_laid_30 : decode cX9_laid 30 = .ok (.getfield 51, 3) := by decide +kernel
theorem dX9_laid_33 : decode cX9_laid 33 = .ok (.aload_n 0, 1) := by decide +kernel
theorem dX9_laid_34 : decode cX9_laid 34 = .ok (.getfield 69, 3) := by decide +kernel
theorem dX9_laid_37 : decode cX9_laid 37 = .ok (.iload_n 3, 1) := by decide +kernel
theorem dX9_laid_38 : decode cX9_laid 38 = .ok (.invokevirtual 193, 3) := by decide +kernel
theorem dX9_laid_41 : decode cX9_laid 41 = .ok (.istore 6, 2) := by decide +kernel
theorem dX9_laid_43 : decode cX9_laid 43 = .ok (.iload 4, 2) := by decide +kernel
theorem dX9_laid_45 : decode cX9_laid 45 = .ok (.ifCond .ge 8, 3) := by decide +kernel
theorem dX9_laid_48 : decode cX9_laid 48 = .ok (.iload 6, 2) := by decide +kernel
theorem dX9_laid_50 : decode cX9_laid 50 = .ok (.goto 13, 3) := by decide +kernel
theorem dX9_laid_53 : decode cX9_laid 53 = .ok (.aload_n 0, 1) := by decide +kernel
theorem dX9_laid_54 : decode cX9_laid 54 = .ok (.getfield 51, 3) := by decide +kernel
theorem dX9_laid_57 : decode cX9_laid 57 = .ok (.getfield 197, 3) := by decide +kernel
theorem dX9_laid_60 : decode cX9_laid 60 = .ok (.iload 4, 2) := by decide +kernel
theorem dX9_laid_62 : decode cX9_laid 62 = .ok (.iaload, 1) := by decide +kernel
theorem dX9_laid_63 : decode cX9_laid 63 = .ok (.ireturn, 1) := by decide +kernel
set_option maxRecDepth 20000 in
theorem ggX9_cost_X9_isRoom : GoodIn wsX9_cost wsX9_isRoom := goodIn_r _ [5, 6, 7, 4, 8] rfl (by decide +kernel)
set_option maxRecDepth 20000 in
theorem gX9_cost_X9_isRoom : GoodIn wsX9_cost (va_wsS RX9 83 yX9_isRoom wsX9_isRoom) := goodIn_app (goodIn_of _ (by decide +kernel)) ggX9_cost_X9_isRoom
set_option maxRecDepth 20000 in
theorem ggX9_cost_X3_costOf : GoodIn wsX9_cost wsX3_costOf := goodIn_r _ [13, 14, 15, 16, 17, 18, 19, 20, 21, 22, 23, 24, 25, 26, 27, 39, 40, 41, 42, 43, 44, 45, 46, 47, 48, 49, 50, 51, 52, 53, 54, 55, 56, 57, 58, 59, 60, 61, 62] rfl (by decide +kernel)
set_option maxRecDepth 20000 in
theorem gX9_cost_X3_costOf : GoodIn wsX9_cost (wsV RX9 200 RX3 yX3_costOf wsX3_costOf) := goodIn_app (goodIn_of _ (by decide +kernel)) ggX9_cost_X3_costOf
theorem dX9_cost_0 : decode cX9_cost 0 = .ok (.iload_n 1, 1) := by decide +kernel
theorem dX9_cost_1 : decode cX9_cost 1 = .ok (.invokestatic 83, 3) := by decide +kernel
theorem dX9_cost_4 : decode cX9_cost 4 = .ok (.ifCond .eq 14, 3) := by decide +kernel
theorem dX9_cost_7 : decode cX9_cost 7 = .ok (.aload_n 0, 1) := by decide +kernel
theorem dX9_cost_8 : decode cX9_cost 8 = .ok (.getfield 44, 3) := by decide +kernel
theorem dX9_cost_11 : decode cX9_cost 11 = .ok (.iload_n 1, 1) := by decide +kernel
theorem dX9_cost_12 : decode cX9_cost 12 = .ok (.invokevirtual 200, 3) := by decide +kernel
theorem dX9_cost_15 : decode cX9_cost 15 = .ok (.goto 5, 3) := by decide +kernel
theorem dX9_cost_18 : decode cX9_cost 18 = .ok (.bipush (-2), 2) := by decide +kernel
theorem dX9_cost_20 : decode cX9_cost 20 = .ok (.ireturn, 1) := by decide +kernel
set_option maxRecDepth 20000 in
theorem ggX9_plan_X9_within : GoodIn wsX9_plan wsX9_within := goodIn_r _ [5] rfl (by decide +kernel)
set_option maxRecDepth 20000 in
theorem gX9_plan_X9_within : GoodIn wsX9_plan (va_wsS RX9 106 yX9_within wsX9_within) := goodIn_app (goodIn_of _ (by decide +kernel)) ggX9_plan_X9_within
set_option maxRecDepth 20000 in
theorem ggX9_plan_X3_takeMinutes : GoodIn wsX9_plan wsX3_takeMinutes := goodIn_r _ [10, 11, 122, 123, 124, 125, 126, 127, 128, 129, 130] rfl (by decide +kernel)
set_option maxRecDepth 20000 in
theorem gX9_plan_X3_takeMinutes : GoodIn wsX9_plan (wsV RX9 203 RX3 yX3_takeMinutes wsX3_takeMinutes) := goodIn_app (goodIn_of _ (by decide +kernel)) ggX9_plan_X3_takeMinutes
set_option maxRecDepth 20000 in
theorem ggX9_plan_X3_findBest : GoodIn wsX9_plan wsX3_findBest := goodIn_r _ [15, 16, 17, 18, 19, 20, 9, 21, 22, 23, 24, 25, 26, 27, 28, 29, 30, 31, 32, 33, 34, 35, 36, 37, 38, 39, 40, 41, 42, 43, 44, 45, 46, 47, 48, 49, 50, 51, 52, 53, 54, 55, 56, 57, 58, 59, 60, 61, 62, 63, 64, 65, 66, 67, 68, 69, 70, 71, 72, 73, 74, 75, 76, 77, 78, 79, 80, 81, 82, 83, 84, 85, 86, 87, 88, 89, 90, 91, 92, 93, 94, 95, 96, 97, 98, 99, 100, 101, 102, 103, 104, 105, 106, 107, 108, 109, 110, 11, 122, 123, 124, 125, 126, 127, 128, 129, 130, 131, 132, 133, 134, 135, 136, 137, 138, 139, 140, 141, 142, 143, 144, 145, 146] rfl (by decide +kernel)
set_option maxRecDepth 20000 in
theorem gX9_plan_X3_findBest : GoodIn wsX9_plan (wsV RX9 206 RX3 yX3_findBest wsX3_findBest) := goodIn_app (goodIn_of _ (by decide +kernel)) ggX9_plan_X3_findBest
theorem dX9_plan_0 : decode cX9_plan 0 = .ok (.iload_n 1, 1) := by decide +kernel
theorem dX9_plan_1 : decode cX9_plan 1 = .ok (.iconst 1, 1) := by decide +kernel
theorem dX9_plan_2 : decode cX9_plan 2 = .ok (.iconst 4, 1) := by decide +kernel
theorem dX9_plan_3 : decode cX9_plan 3 = .ok (.invokestatic 106, 3) := by decide +kernel
theorem dX9_plan_6 : decode cX9_plan 6 = .ok (.ifCond .eq 26, 3) := by decide +kernel
theorem dX9_plan_9 : decode cX9_plan 9 = .ok (.iload_n 3, 1) := by decide +kernel
theorem dX9_plan_10 : decode cX9_plan 10 = .ok (.iconst (-1), 1) := by decide +kernel
theorem dX9_plan_11 : decode cX9_plan 11 = .ok (.iload_n 1, 1) := by decide +kernel
theorem dX9_plan_12 : decode cX9_plan 12 = .ok (.iconst 1, 1) := by decide +kernel
theorem dX9_plan_13 : decode cX9_plan 13 = .ok (.isub, 1) := by decide +kernel
theorem dX9_plan_14 : decode cX9_plan 14 = .ok (.invokestatic 106, 3) := by decide +kernel
theorem dX9_plan_17 : decode cX9_plan 17 = .ok (.ifCond .eq 15, 3) := by decide +kernel
theorem dX9_plan_20 : decode cX9_plan 20 = .ok (.aload_n 0, 1) := by decide +kernel
theorem dX9_plan_21 : decode cX9_plan 21 = .ok (.getfield 44, 3) := by decide +kernel
theorem dX9_plan_24 : decode cX9_plan 24 = .ok (.iload_n 2, 1) := by decide +kernel
theorem dX9_plan_25 : decode cX9_plan 25 = .ok (.iload_n 1, 1) := by decide +kernel
theorem dX9_plan_26 : decode cX9_plan 26 = .ok (.invokevirtual 203, 3) := by decide +kernel
theorem dX9_plan_29 : decode cX9_plan 29 = .ok (.ifCond .ne 6, 3) := by decide +kernel
theorem dX9_plan_32 : decode cX9_plan 32 = .ok (.bipush (-3), 2) := by decide +kernel
theorem dX9_plan_34 : decode cX9_plan 34 = .ok (.ireturn, 1) := by decide +kernel
theorem dX9_plan_35 : decode cX9_plan 35 = .ok (.aload_n 0, 1) := by decide +kernel
theorem dX9_plan_36 : decode cX9_plan 36 = .ok (.getfield 44, 3) := by decide +kernel
theorem dX9_plan_39 : decode cX9_plan 39 = .ok (.iload_n 1, 1) := by decide +kernel
theorem dX9_plan_40 : decode cX9_plan 40 = .ok (.invokevirtual 206, 3) := by decide +kernel
theorem dX9_plan_43 : decode cX9_plan 43 = .ok (.iload_n 3, 1) := by decide +kernel
theorem dX9_plan_44 : decode cX9_plan 44 = .ok (.ifCond .ge 13, 3) := by decide +kernel
theorem dX9_plan_47 : decode cX9_plan 47 = .ok (.aload_n 0, 1) := by decide +kernel
theorem dX9_plan_48 : decode cX9_plan 48 = .ok (.getfield 44, 3) := by decide +kernel
theorem dX9_plan_51 : decode cX9_plan 51 = .ok (.getfield 209, 3) := by decide +kernel
theorem dX9_plan_54 : decode cX9_plan 54 = .ok (.goto 12, 3) := by decide +kernel
theorem dX9_plan_57 : decode cX9_plan 57 = .ok (.aload_n 0, 1) := by decide +kernel
theorem dX9_plan_58 : decode cX9_plan 58 = .ok (.getfield 44, 3) := by decide +kernel
theorem dX9_plan_61 : decode cX9_plan 61 = .ok (.getfield 212, 3) := by decide +kernel
theorem dX9_plan_64 : decode cX9_plan 64 = .ok (.iload_n 3, 1) := by decide +kernel
theorem dX9_plan_65 : decode cX9_plan 65 = .ok (.iaload, 1) := by decide +kernel
theorem dX9_plan_66 : decode cX9_plan 66 = .ok (.ireturn, 1) := by decide +kernel
set_option maxRecDepth 20000 in
theorem ggX9_judge_X9_within : GoodIn wsX9_judge wsX9_within := goodIn_r _ [5] rfl (by decide +kernel)
set_option maxRecDepth 20000 in
theorem gX9_judge_X9_within : GoodIn wsX9_judge (va_wsS RX9 106 yX9_within wsX9_within) := goodIn_app (goodIn_of _ (by decide +kernel)) ggX9_judge_X9_within
set_option maxRecDepth 20000 in
theorem ggX9_judge_X3_takeRooms : GoodIn wsX9_judge wsX3_takeRooms := goodIn_r _ [10, 11, 113, 114, 115, 116, 117, 118, 119, 120, 121] rfl (by decide +kernel)
set_option maxRecDepth 20000 in
theorem gX9_judge_X3_takeRooms : GoodIn wsX9_judge (wsV RX9 215 RX3 yX3_takeRooms wsX3_takeRooms) := goodIn_app (goodIn_of _ (by decide +kernel)) ggX9_judge_X3_takeRooms
set_option maxRecDepth 20000 in
theorem ggX9_judge_X3_takeMinutes : GoodIn wsX9_judge wsX3_takeMinutes := goodIn_r _ [15, 16, 113, 114, 115, 116, 117, 118, 119, 120, 121] rfl (by decide +kernel)
set_option maxRecDepth 20000 in
theorem gX9_judge_X3_takeMinutes : GoodIn wsX9_judge (wsV RX9 203 RX3 yX3_takeMinutes wsX3_takeMinutes) := goodIn_app (goodIn_of _ (by decide +kernel)) ggX9_judge_X3_takeMinutes
set_option maxRecDepth 20000 in
theorem ggX9_judge_X3_strengthBehindTrial : GoodIn wsX9_judge wsX3_strengthBehindTrial := goodIn_r _ [20, 11, 21, 22, 23, 24, 9, 25, 26, 27, 28, 29, 30, 31, 32, 33, 34, 35, 36, 37, 38, 39, 40, 41, 42, 43, 44, 45, 46, 47, 48, 49, 50, 51, 52, 53, 54, 55, 56, 57, 58, 59, 60, 61, 62, 63, 64, 65, 66, 67, 68, 69, 70, 71, 72, 73, 4, 74, 2, 3, 5, 75, 76, 77, 78, 16, 79, 80, 81, 82, 83, 84, 85, 86, 87, 88, 89, 90, 91, 92, 93, 94, 95, 96, 97, 98, 99, 100, 101, 113, 114, 115, 116, 117, 118, 119, 120, 121, 122, 123, 124, 125, 126, 127, 128, 129, 130, 131, 132, 133, 134, 135, 136, 137] rfl (by decide +kernel)
set_option maxRecDepth 20000 in
theorem gX9_judge_X3_strengthBehindTrial : GoodIn wsX9_judge (wsV RX9 218 RX3 yX3_strengthBehindTrial wsX3_strengthBehindTrial) := goodIn_app (goodIn_of _ (by decide +kernel)) ggX9_judge_X3_strengthBehindTrial
theorem dX9_judge_0 : decode cX9_judge 0 = .ok (.iload_n 2, 1) := by decide +kernel
theorem dX9_judge_1 : decode cX9_judge 1 = .ok (.iconst 1, 1) := by decide +kernel
theorem dX9_judge_2 : decode cX9_judge 2 = .ok (.iconst 4, 1) := by decide +kernel
theorem dX9_judge_3 : decode cX9_judge 3 = .ok (.invokestatic 106, 3) := by decide +kernel
theorem dX9_judge_6 : decode cX9_judge 6 = .ok (.ifCond .eq 27, 3) := by decide +kernel
theorem dX9_judge_9 : decode cX9_judge 9 = .ok (.aload_n 0, 1) := by decide +kernel
theorem dX9_judge_10 : decode cX9_judge 10 = .ok (.getfield 44, 3) := by decide +kernel
theorem dX9_judge_13 : decode cX9_judge 13 = .ok (.iload_n 1, 1) := by decide +kernel
theorem dX9_judge_14 : decode cX9_judge 14 = .ok (.iload_n 2, 1) := by decide +kernel
theorem dX9_judge_15 : decode cX9_judge 15 = .ok (.invokevirtual 215, 3) := by decide +kernel
theorem dX9_judge_18 : decode cX9_judge 18 = .ok (.ifCond .eq 15, 3) := by decide +kernel
theorem dX9_judge_21 : decode cX9_judge 21 = .ok (.aload_n 0, 1) := by decide +kernel
theorem dX9_judge_22 : decode cX9_judge 22 = .ok (.getfield 44, 3) := by decide +kernel
theorem dX9_judge_25 : decode cX9_judge 25 = .ok (.iload_n 3, 1) := by decide +kernel
theorem dX9_judge_26 : decode cX9_judge 26 = .ok (.iload_n 2, 1) := by decide +kernel
theorem dX9_judge_27 : decode cX9_judge 27 = .ok (.invokevirtual 203, 3) := by decide +kernel
theorem dX9_judge_30 : decode cX9_judge 30 = .ok (.ifCond .ne 6, 3) := by decide +kernel
theorem dX9_judge_33 : decode cX9_judge 33 = .ok (.bipush (-3), 2) := by decide +kernel
theorem dX9_judge_35 : decode cX9_judge 35 = .ok (.ireturn, 1) := by decide +kernel
theorem dX9_judge_36 : decode cX9_judge 36 = .ok (.aload_n 0, 1) := by decide +kernel
theorem dX9_judge_37 : decode cX9_judge 37 = .ok (.getfield 44, 3) := by decide +kernel
theorem dX9_judge_40 : decode cX9_judge 40 = .ok (.iload_n 2, 1) := by decide +kernel
theorem dX9_judge_41 : decode cX9_judge 41 = .ok (.invokevirtual 218, 3) := by decide +kernel
theorem dX9_judge_44 : decode cX9_judge 44 = .ok (.ireturn, 1) := by decide +kernel
set_option maxRecDepth 20000 in
theorem ggX9_right_X9_isCorner : GoodIn wsX9_right wsX9_isCorner := goodIn_r _ [5, 6, 7, 4, 8] rfl (by decide +kernel)
set_option maxRecDepth 20000 in
theorem gX9_right_X9_isCorner : GoodIn wsX9_right (va_wsS RX9 125 yX9_isCorner wsX9_isCorner) := goodIn_app (goodIn_of _ (by decide +kernel)) ggX9_right_X9_isCorner
set_option maxRecDepth 20000 in
theorem ggX9_right_X9_within : GoodIn wsX9_right wsX9_within := goodIn_r _ [8] rfl (by decide +kernel)
set_option maxRecDepth 20000 in
theorem gX9_right_X9_within : GoodIn wsX9_right (va_wsS RX9 106 yX9_within wsX9_within) := goodIn_app (goodIn_of _ (by decide +kernel)) ggX9_right_X9_within
set_option maxRecDepth 20000 in
theorem ggX9_right_X1_strengthAgainst : GoodIn wsX9_right wsX1_strengthAgainst := goodIn_r _ [13, 14, 15, 16, 17, 18, 19, 12, 20, 21, 22, 23, 24, 25, 26, 27, 28, 29, 30, 31, 32, 33, 34, 35, 36, 37, 38, 39, 40, 62, 63, 64, 65, 66, 67, 68, 69, 70, 71, 72, 73, 74, 75] rfl (by decide +kernel)
set_option maxRecDepth 20000 in
theorem gX9_right_X1_strengthAgainst : GoodIn wsX9_right (wsV RX9 221 RX1 yX1_strengthAgainst wsX1_strengthAgainst) := goodIn_app (goodIn_of _ (by decide +kernel)) ggX9_right_X1_strengthAgainst
set_option maxRecDepth 20000 in
theorem ggX9_right_X9_commonDivisor : GoodIn wsX9_right wsX9_commonDivisor := goodIn_r _ [43, 44, 45, 46, 47, 48, 49, 50] rfl (by decide +kernel)
set_option maxRecDepth 20000 in
theorem gX9_right_X9_commonDivisor : GoodIn wsX9_right (va_wsS RX9 224 yX9_commonDivisor wsX9_commonDivisor) := goodIn_app (goodIn_of _ (by decide +kernel)) ggX9_right_X9_commonDivisor
theorem dX9_right_0 : decode cX9_right 0 = .ok (.iload_n 1, 1) := by decide +kernel
theorem dX9_right_1 : decode cX9_right 1 = .ok (.invokestatic 125, 3) := by decide +kernel
theorem dX9_right_4 : decode cX9_right 4 = .ok (.ifCond .ne 6, 3) := by decide +kernel
theorem dX9_right_7 : decode cX9_right 7 = .ok (.bipush (-2), 2) := by decide +kernel
theorem dX9_right_9 : decode cX9_right 9 = .ok (.ireturn, 1) := by decide +kernel
theorem dX9_right_10 : decode cX9_right 10 = .ok (.iload_n 2, 1) := by decide +kernel
theorem dX9_right_11 : decode cX9_right 11 = .ok (.iconst 0, 1) := by decide +kernel
theorem dX9_right_12 : decode cX9_right 12 = .ok (.iconst 1, 1) := by decide +kernel
theorem dX9_right_13 : decode cX9_right 13 = .ok (.invokestatic 106, 3) := by decide +kernel
theorem dX9_right_16 : decode cX9_right 16 = .ok (.ifCond .ne 6, 3) := by decide +kernel
theorem dX9_right_19 : decode cX9_right 19 = .ok (.bipush (-3), 2) := by decide +kernel
theorem dX9_right_21 : decode cX9_right 21 = .ok (.ireturn, 1) := by decide +kernel
theorem dX9_right_22 : decode cX9_right 22 = .ok (.aload_n 0, 1) := by decide +kernel
theorem dX9_right_23 : decode cX9_right 23 = .ok (.getfield 28, 3) := by decide +kernel
theorem dX9_right_26 : decode cX9_right 26 = .ok (.getfield 131, 3) := by decide +kernel
theorem dX9_right_29 : decode cX9_right 29 = .ok (.iload_n 1, 1) := by decide +kernel
