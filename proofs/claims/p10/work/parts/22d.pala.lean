theorem dX9_pupil_71 : decode cX9_pupil 71 = .ok (.ireturn, 1) := by decide +kernel
theorem dX9_pupil_72 : decode cX9_pupil 72 = .ok (.bipush (-3), 2) := by decide +kernel
theorem dX9_pupil_74 : decode cX9_pupil 74 = .ok (.ireturn, 1) := by decide +kernel
set_option maxRecDepth 20000 in
theorem ggX9_figures_X9_isFigure : GoodIn wsX9_figures wsX9_isFigure := goodIn_r _ [5, 6, 7, 4, 8] rfl (by decide +kernel)
set_option maxRecDepth 20000 in
theorem gX9_figures_X9_isFigure : GoodIn wsX9_figures (va_wsS RX9 256 yX9_isFigure wsX9_isFigure) := goodIn_app (goodIn_of _ (by decide +kernel)) ggX9_figures_X9_isFigure
set_option maxRecDepth 20000 in
theorem ggX9_figures_X9_within : GoodIn wsX9_figures wsX9_within := goodIn_r _ [8] rfl (by decide +kernel)
set_option maxRecDepth 20000 in
theorem gX9_figures_X9_within : GoodIn wsX9_figures (va_wsS RX9 106 yX9_within wsX9_within) := goodIn_app (goodIn_of _ (by decide +kernel)) ggX9_figures_X9_within
set_option maxRecDepth 20000 in
theorem ggX9_figures_X0_exchangeAlike : GoodIn wsX9_figures wsX0_exchangeAlike := goodIn_r _ [13, 14, 26, 27, 28, 29, 30, 31] rfl (by decide +kernel)
set_option maxRecDepth 20000 in
theorem gX9_figures_X0_exchangeAlike : GoodIn wsX9_figures (wsV RX9 259 RX0 yX0_exchangeAlike wsX0_exchangeAlike) := goodIn_app (goodIn_of _ (by decide +kernel)) ggX9_figures_X0_exchangeAlike
theorem dX9_figures_0 : decode cX9_figures 0 = .ok (.iload_n 1, 1) := by decide +kernel
theorem dX9_figures_1 : decode cX9_figures 1 = .ok (.invokestatic 256, 3) := by decide +kernel
theorem dX9_figures_4 : decode cX9_figures 4 = .ok (.ifCond .eq 15, 3) := by decide +kernel
theorem dX9_figures_7 : decode cX9_figures 7 = .ok (.iload_n 2, 1) := by decide +kernel
theorem dX9_figures_8 : decode cX9_figures 8 = .ok (.invokestatic 256, 3) := by decide +kernel
theorem dX9_figures_11 : decode cX9_figures 11 = .ok (.ifCond .eq 8, 3) := by decide +kernel
theorem dX9_figures_14 : decode cX9_figures 14 = .ok (.iload_n 1, 1) := by decide +kernel
theorem dX9_figures_15 : decode cX9_figures 15 = .ok (.iload_n 2, 1) := by decide +kernel
theorem dX9_figures_16 : decode cX9_figures 16 = .ok (.if_icmp .ne 6, 3) := by decide +kernel
theorem dX9_figures_19 : decode cX9_figures 19 = .ok (.bipush (-2), 2) := by decide +kernel
theorem dX9_figures_21 : decode cX9_figures 21 = .ok (.ireturn, 1) := by decide +kernel
theorem dX9_figures_22 : decode cX9_figures 22 = .ok (.iload_n 3, 1) := by decide +kernel
theorem dX9_figures_23 : decode cX9_figures 23 = .ok (.iconst 0, 1) := by decide +kernel
theorem dX9_figures_24 : decode cX9_figures 24 = .ok (.bipush 9, 2) := by decide +kernel
theorem dX9_figures_26 : decode cX9_figures 26 = .ok (.invokestatic 106, 3) := by decide +kernel
theorem dX9_figures_29 : decode cX9_figures 29 = .ok (.ifCond .ne 6, 3) := by decide +kernel
theorem dX9_figures_32 : decode cX9_figures 32 = .ok (.bipush (-3), 2) := by decide +kernel
theorem dX9_figures_34 : decode cX9_figures 34 = .ok (.ireturn, 1) := by decide +kernel
theorem dX9_figures_35 : decode cX9_figures 35 = .ok (.aload_n 0, 1) := by decide +kernel
theorem dX9_figures_36 : decode cX9_figures 36 = .ok (.getfield 58, 3) := by decide +kernel
theorem dX9_figures_39 : decode cX9_figures 39 = .ok (.iload_n 1, 1) := by decide +kernel
theorem dX9_figures_40 : decode cX9_figures 40 = .ok (.iload_n 2, 1) := by decide +kernel
theorem dX9_figures_41 : decode cX9_figures 41 = .ok (.iload_n 3, 1) := by decide +kernel
theorem dX9_figures_42 : decode cX9_figures 42 = .ok (.invokevirtual 259, 3) := by decide +kernel
theorem dX9_figures_45 : decode cX9_figures 45 = .ok (.ireturn, 1) := by decide +kernel
set_option maxRecDepth 20000 in
theorem ggX9_code_X9_rowRefusal : GoodIn wsX9_code wsX9_rowRefusal := goodIn_r _ [7, 8, 9, 10, 11, 2, 12, 13, 6, 14, 15, 16, 17, 18, 19, 20, 21, 58, 59, 60, 61, 62, 63, 64, 65, 66, 67, 68] rfl (by decide +kernel)
set_option maxRecDepth 20000 in
theorem gX9_code_X9_rowRefusal : GoodIn wsX9_code (wsV RX9 189 RX9 yX9_rowRefusal wsX9_rowRefusal) := goodIn_app (goodIn_of _ (by decide +kernel)) ggX9_code_X9_rowRefusal
set_option maxRecDepth 20000 in
theorem ggX9_code_X0_findBest : GoodIn wsX9_code wsX0_findBest := goodIn_r _ [26, 27, 28, 29, 30, 31, 32, 33, 34, 35, 25, 36, 37, 38, 39, 40, 41, 42, 43, 44, 45, 46, 47, 48, 49, 50, 51, 52, 53, 54, 55, 56, 57, 69, 70, 71, 72, 73, 74, 75] rfl (by decide +kernel)
set_option maxRecDepth 20000 in
theorem gX9_code_X0_findBest : GoodIn wsX9_code (wsV RX9 263 RX0 yX0_findBest wsX0_findBest) := goodIn_app (goodIn_of _ (by decide +kernel)) ggX9_code_X0_findBest
theorem dX9_code_0 : decode cX9_code 0 = .ok (.aload_n 0, 1) := by decide +kernel
theorem dX9_code_1 : decode cX9_code 1 = .ok (.lload_n 1, 1) := by decide +kernel
theorem dX9_code_2 : decode cX9_code 2 = .ok (.iload_n 3, 1) := by decide +kernel
theorem dX9_code_3 : decode cX9_code 3 = .ok (.iload 4, 2) := by decide +kernel
theorem dX9_code_5 : decode cX9_code 5 = .ok (.iconst 2, 1) := by decide +kernel
theorem dX9_code_6 : decode cX9_code 6 = .ok (.bipush 6, 2) := by decide +kernel
theorem dX9_code_8 : decode cX9_code 8 = .ok (.invokevirtual 189, 3) := by decide +kernel
theorem dX9_code_11 : decode cX9_code 11 = .ok (.istore 5, 2) := by decide +kernel
theorem dX9_code_13 : decode cX9_code 13 = .ok (.iload 5, 2) := by decide +kernel
theorem dX9_code_15 : decode cX9_code 15 = .ok (.ifCond .eq 6, 3) := by decide +kernel
theorem dX9_code_18 : decode cX9_code 18 = .ok (.iload 5, 2) := by decide +kernel
theorem dX9_code_20 : decode cX9_code 20 = .ok (.ireturn, 1) := by decide +kernel
theorem dX9_code_21 : decode cX9_code 21 = .ok (.iload 4, 2) := by decide +kernel
theorem dX9_code_23 : decode cX9_code 23 = .ok (.iload_n 3, 1) := by decide +kernel
theorem dX9_code_24 : decode cX9_code 24 = .ok (.if_icmp .lt 5, 3) := by decide +kernel
theorem dX9_code_27 : decode cX9_code 27 = .ok (.iconst (-1), 1) := by decide +kernel
theorem dX9_code_28 : decode cX9_code 28 = .ok (.ireturn, 1) := by decide +kernel
theorem dX9_code_29 : decode cX9_code 29 = .ok (.aload_n 0, 1) := by decide +kernel
theorem dX9_code_30 : decode cX9_code 30 = .ok (.getfield 58, 3) := by decide +kernel
theorem dX9_code_33 : decode cX9_code 33 = .ok (.aload_n 0, 1) := by decide +kernel
theorem dX9_code_34 : decode cX9_code 34 = .ok (.getfield 69, 3) := by decide +kernel
theorem dX9_code_37 : decode cX9_code 37 = .ok (.iload_n 3, 1) := by decide +kernel
theorem dX9_code_38 : decode cX9_code 38 = .ok (.invokevirtual 263, 3) := by decide +kernel
theorem dX9_code_41 : decode cX9_code 41 = .ok (.iload 4, 2) := by decide +kernel
theorem dX9_code_43 : decode cX9_code 43 = .ok (.ifCond .ge 13, 3) := by decide +kernel
theorem dX9_code_46 : decode cX9_code 46 = .ok (.aload_n 0, 1) := by decide +kernel
theorem dX9_code_47 : decode cX9_code 47 = .ok (.getfield 58, 3) := by decide +kernel
theorem dX9_code_50 : decode cX9_code 50 = .ok (.getfield 266, 3) := by decide +kernel
theorem dX9_code_53 : decode cX9_code 53 = .ok (.goto 13, 3) := by decide +kernel
theorem dX9_code_56 : decode cX9_code 56 = .ok (.aload_n 0, 1) := by decide +kernel
theorem dX9_code_57 : decode cX9_code 57 = .ok (.getfield 58, 3) := by decide +kernel
theorem dX9_code_60 : decode cX9_code 60 = .ok (.getfield 269, 3) := by decide +kernel
theorem dX9_code_63 : decode cX9_code 63 = .ok (.iload 4, 2) := by decide +kernel
theorem dX9_code_65 : decode cX9_code 65 = .ok (.iaload, 1) := by decide +kernel
theorem dX9_code_66 : decode cX9_code 66 = .ok (.ireturn, 1) := by decide +kernel
set_option maxRecDepth 20000 in
theorem ggX9_enough_X9_within : GoodIn wsX9_enough wsX9_within := goodIn_r _ [6] rfl (by decide +kernel)
set_option maxRecDepth 20000 in
theorem gX9_enough_X9_within : GoodIn wsX9_enough (va_wsS RX9 106 yX9_within wsX9_within) := goodIn_app (goodIn_of _ (by decide +kernel)) ggX9_enough_X9_within
set_option maxRecDepth 20000 in
theorem ggX9_enough_X8_between : GoodIn wsX9_enough wsX8_between := goodIn_r _ [11, 12, 34, 35] rfl (by decide +kernel)
set_option maxRecDepth 20000 in
theorem gX9_enough_X8_between : GoodIn wsX9_enough (wsV RX9 99 RX8 yX8_between wsX8_between) := goodIn_app (goodIn_of _ (by decide +kernel)) ggX9_enough_X8_between
set_option maxRecDepth 20000 in
theorem ggX9_enough_X5_cornersToUse : GoodIn wsX9_enough wsX5_cornersToUse := goodIn_r _ [17, 18, 19, 20, 21, 22, 36, 37, 38, 39, 40] rfl (by decide +kernel)
set_option maxRecDepth 20000 in
theorem gX9_enough_X5_cornersToUse : GoodIn wsX9_enough (wsV RX9 270 RX5 yX5_cornersToUse wsX5_cornersToUse) := goodIn_app (goodIn_of _ (by decide +kernel)) ggX9_enough_X5_cornersToUse
theorem dX9_enough_0 : decode cX9_enough 0 = .ok (.iload_n 1, 1) := by decide +kernel
theorem dX9_enough_1 : decode cX9_enough 1 = .ok (.iconst 0, 1) := by decide +kernel
theorem dX9_enough_2 : decode cX9_enough 2 = .ok (.bipush 48, 2) := by decide +kernel
theorem dX9_enough_4 : decode cX9_enough 4 = .ok (.invokestatic 106, 3) := by decide +kernel
theorem dX9_enough_7 : decode cX9_enough 7 = .ok (.ifCond .ne 6, 3) := by decide +kernel
theorem dX9_enough_10 : decode cX9_enough 10 = .ok (.bipush (-3), 2) := by decide +kernel
theorem dX9_enough_12 : decode cX9_enough 12 = .ok (.ireturn, 1) := by decide +kernel
theorem dX9_enough_13 : decode cX9_enough 13 = .ok (.iconst 0, 1) := by decide +kernel
theorem dX9_enough_14 : decode cX9_enough 14 = .ok (.istore_n 2, 1) := by decide +kernel
theorem dX9_enough_15 : decode cX9_enough 15 = .ok (.iconst 0, 1) := by decide +kernel
theorem dX9_enough_16 : decode cX9_enough 16 = .ok (.istore_n 3, 1) := by decide +kernel
theorem dX9_enough_17 : decode cX9_enough 17 = .ok (.iconst 0, 1) := by decide +kernel
theorem dX9_enough_18 : decode cX9_enough 18 = .ok (.istore 4, 2) := by decide +kernel
theorem dX9_enough_20 : decode cX9_enough 20 = .ok (.iload 4, 2) := by decide +kernel
theorem dX9_enough_22 : decode cX9_enough 22 = .ok (.bipush 8, 2) := by decide +kernel
theorem dX9_enough_24 : decode cX9_enough 24 = .ok (.if_icmp .ge 60, 3) := by decide +kernel
theorem dX9_enough_27 : decode cX9_enough 27 = .ok (.iconst 0, 1) := by decide +kernel
theorem dX9_enough_28 : decode cX9_enough 28 = .ok (.istore 5, 2) := by decide +kernel
theorem dX9_enough_30 : decode cX9_enough 30 = .ok (.iload 5, 2) := by decide +kernel
theorem dX9_enough_32 : decode cX9_enough 32 = .ok (.bipush 8, 2) := by decide +kernel
theorem dX9_enough_34 : decode cX9_enough 34 = .ok (.if_icmp .ge 44, 3) := by decide +kernel
theorem dX9_enough_37 : decode cX9_enough 37 = .ok (.iload_n 2, 1) := by decide +kernel
theorem dX9_enough_38 : decode cX9_enough 38 = .ok (.iload_n 1, 1) := by decide +kernel
theorem dX9_enough_39 : decode cX9_enough 39 = .ok (.if_icmp .ge 33, 3) := by decide +kernel
theorem dX9_enough_42 : decode cX9_enough 42 = .ok (.aload_n 0, 1) := by decide +kernel
theorem dX9_enough_43 : decode cX9_enough 43 = .ok (.getfield 12, 3) := by decide +kernel
theorem dX9_enough_46 : decode cX9_enough 46 = .ok (.iconst 0, 1) := by decide +kernel
theorem dX9_enough_47 : decode cX9_enough 47 = .ok (.iload 5, 2) := by decide +kernel
theorem dX9_enough_49 : decode cX9_enough 49 = .ok (.invokevirtual 99, 3) := by decide +kernel
theorem dX9_enough_52 : decode cX9_enough 52 = .ok (.iload 4, 2) := by decide +kernel
theorem dX9_enough_54 : decode cX9_enough 54 = .ok (.if_icmp .ne 18, 3) := by decide +kernel
theorem dX9_enough_57 : decode cX9_enough 57 = .ok (.iload_n 2, 1) := by decide +kernel
theorem dX9_enough_58 : decode cX9_enough 58 = .ok (.aload_n 0, 1) := by decide +kernel
theorem dX9_enough_59 : decode cX9_enough 59 = .ok (.getfield 76, 3) := by decide +kernel
theorem dX9_enough_62 : decode cX9_enough 62 = .ok (.iload 5, 2) := by decide +kernel
theorem dX9_enough_64 : decode cX9_enough 64 = .ok (.invokevirtual 270, 3) := by decide +kernel
theorem dX9_enough_67 : decode cX9_enough 67 = .ok (.iadd, 1) := by decide +kernel
theorem dX9_enough_68 : decode cX9_enough 68 = .ok (.istore_n 2, 1) := by decide +kernel
theorem dX9_enough_69 : decode cX9_enough 69 = .ok (.iinc 3 1, 3) := by decide +kernel
theorem dX9_enough_72 : decode cX9_enough 72 = .ok (.iinc 5 1, 3) := by decide +kernel
theorem dX9_enough_75 : decode cX9_enough 75 = .ok (.goto (-45), 3) := by decide +kernel
theorem dX9_enough_78 : decode cX9_enough 78 = .ok (.iinc 4 1, 3) := by decide +kernel
theorem dX9_enough_81 : decode cX9_enough 81 = .ok (.goto (-61), 3) := by decide +kernel
theorem dX9_enough_84 : decode cX9_enough 84 = .ok (.iload_n 2, 1) := by decide +kernel
theorem dX9_enough_85 : decode cX9_enough 85 = .ok (.iload_n 1, 1) := by decide +kernel
theorem dX9_enough_86 : decode cX9_enough 86 = .ok (.if_icmp .ge 7, 3) := by decide +kernel
theorem dX9_enough_89 : decode cX9_enough 89 = .ok (.iconst (-1), 1) := by decide +kernel
theorem dX9_enough_90 : decode cX9_enough 90 = .ok (.goto 4, 3) := by decide +kernel
theorem dX9_enough_93 : decode cX9_enough 93 = .ok (.iload_n 3, 1) := by decide +kernel
theorem dX9_enough_94 : decode cX9_enough 94 = .ok (.ireturn, 1) := by decide +kernel
set_option maxRecDepth 20000 in
theorem ggX9_count_X9_filled : GoodIn wsX9_count wsX9_filled := goodIn_r _ [8] rfl (by decide +kernel)
set_option maxRecDepth 20000 in
theorem gX9_count_X9_filled : GoodIn wsX9_count (va_wsS RX9 273 yX9_filled wsX9_filled) := goodIn_app (goodIn_of _ (by decide +kernel)) ggX9_count_X9_filled
set_option maxRecDepth 20000 in
theorem ggX9_count_X1_allStrength : GoodIn wsX9_count wsX1_allStrength := goodIn_r _ [13, 14, 15, 27, 28, 29, 30, 31, 32, 33, 34, 35, 36, 37, 38, 39] rfl (by decide +kernel)
set_option maxRecDepth 20000 in
theorem gX9_count_X1_allStrength : GoodIn wsX9_count (wsV RX9 277 RX1 yX1_allStrength wsX1_allStrength) := goodIn_app (goodIn_of _ (by decide +kernel)) ggX9_count_X1_allStrength
theorem dX9_count_0 : decode cX9_count 0 = .ok (.iload_n 1, 1) := by decide +kernel
theorem dX9_count_1 : decode cX9_count 1 = .ok (.tableswitch 105 0 6 #[43, 51, 59, 70, 81, 89, 97], 43) := by decide +kernel
theorem dX9_count_44 : decode cX9_count 44 = .ok (.aload_n 0, 1) := by decide +kernel
theorem dX9_count_45 : decode cX9_count 45 = .ok (.getfield 28, 3) := by decide +kernel
theorem dX9_count_48 : decode cX9_count 48 = .ok (.getfield 153, 3) := by decide +kernel
theorem dX9_count_51 : decode cX9_count 51 = .ok (.ireturn, 1) := by decide +kernel
theorem dX9_count_52 : decode cX9_count 52 = .ok (.aload_n 0, 1) := by decide +kernel
theorem dX9_count_53 : decode cX9_count 53 = .ok (.getfield 12, 3) := by decide +kernel
theorem dX9_count_56 : decode cX9_count 56 = .ok (.getfield 91, 3) := by decide +kernel
theorem dX9_count_59 : decode cX9_count 59 = .ok (.ireturn, 1) := by decide +kernel
theorem dX9_count_60 : decode cX9_count 60 = .ok (.aload_n 0, 1) := by decide +kernel
theorem dX9_count_61 : decode cX9_count 61 = .ok (.getfield 28, 3) := by decide +kernel
theorem dX9_count_64 : decode cX9_count 64 = .ok (.getfield 131, 3) := by decide +kernel
theorem dX9_count_67 : decode cX9_count 67 = .ok (.invokestatic 273, 3) := by decide +kernel
theorem dX9_count_70 : decode cX9_count 70 = .ok (.ireturn, 1) := by decide +kernel
theorem dX9_count_71 : decode cX9_count 71 = .ok (.aload_n 0, 1) := by decide +kernel
theorem dX9_count_72 : decode cX9_count 72 = .ok (.getfield 28, 3) := by decide +kernel
theorem dX9_count_75 : decode cX9_count 75 = .ok (.getfield 144, 3) := by decide +kernel
theorem dX9_count_78 : decode cX9_count 78 = .ok (.invokestatic 273, 3) := by decide +kernel
theorem dX9_count_81 : decode cX9_count 81 = .ok (.ireturn, 1) := by decide +kernel
theorem dX9_count_82 : decode cX9_count 82 = .ok (.aload_n 0, 1) := by decide +kernel
theorem dX9_count_83 : decode cX9_count 83 = .ok (.getfield 28, 3) := by decide +kernel
theorem dX9_count_86 : decode cX9_count 86 = .ok (.invokevirtual 277, 3) := by decide +kernel
theorem dX9_count_89 : decode cX9_count 89 = .ok (.ireturn, 1) := by decide +kernel
theorem dX9_count_90 : decode cX9_count 90 = .ok (.aload_n 0, 1) := by decide +kernel
theorem dX9_count_91 : decode cX9_count 91 = .ok (.getfield 35, 3) := by decide +kernel
theorem dX9_count_94 : decode cX9_count 94 = .ok (.getfield 163, 3) := by decide +kernel
theorem dX9_count_97 : decode cX9_count 97 = .ok (.ireturn, 1) := by decide +kernel
theorem dX9_count_98 : decode cX9_count 98 = .ok (.aload_n 0, 1) := by decide +kernel
theorem dX9_count_99 : decode cX9_count 99 = .ok (.getfield 76, 3) := by decide +kernel
theorem dX9_count_102 : decode cX9_count 102 = .ok (.getfield 174, 3) := by decide +kernel
theorem dX9_count_105 : decode cX9_count 105 = .ok (.ireturn, 1) := by decide +kernel
theorem dX9_count_106 : decode cX9_count 106 = .ok (.bipush (-3), 2) := by decide +kernel
theorem dX9_count_108 : decode cX9_count 108 = .ok (.ireturn, 1) := by decide +kernel
theorem dX9_commonDivisor_0 : decode cX9_commonDivisor 0 = .ok (.iload_n 0, 1) := by decide +kernel
theorem dX9_commonDivisor_1 : decode cX9_commonDivisor 1 = .ok (.iload_n 1, 1) := by decide +kernel
theorem dX9_commonDivisor_2 : decode cX9_commonDivisor 2 = .ok (.invokestatic 280, 3) := by decide +kernel
theorem dX9_commonDivisor_5 : decode cX9_commonDivisor 5 = .ok (.istore_n 2, 1) := by decide +kernel
theorem dX9_commonDivisor_6 : decode cX9_commonDivisor 6 = .ok (.iload_n 0, 1) := by decide +kernel
theorem dX9_commonDivisor_7 : decode cX9_commonDivisor 7 = .ok (.iload_n 1, 1) := by decide +kernel
theorem dX9_commonDivisor_8 : decode cX9_commonDivisor 8 = .ok (.invokestatic 285, 3) := by decide +kernel
theorem dX9_commonDivisor_11 : decode cX9_commonDivisor 11 = .ok (.istore_n 3, 1) := by decide +kernel
theorem dX9_commonDivisor_12 : decode cX9_commonDivisor 12 = .ok (.iconst 0, 1) := by decide +kernel
theorem dX9_commonDivisor_13 : decode cX9_commonDivisor 13 = .ok (.istore 4, 2) := by decide +kernel
theorem dX9_commonDivisor_15 : decode cX9_commonDivisor 15 = .ok (.iload 4, 2) := by decide +kernel
theorem dX9_commonDivisor_17 : decode cX9_commonDivisor 17 = .ok (.bipush 64, 2) := by decide +kernel
theorem dX9_commonDivisor_19 : decode cX9_commonDivisor 19 = .ok (.if_icmp .ge 23, 3) := by decide +kernel
theorem dX9_commonDivisor_22 : decode cX9_commonDivisor 22 = .ok (.iload_n 3, 1) := by decide +kernel
theorem dX9_commonDivisor_23 : decode cX9_commonDivisor 23 = .ok (.ifCond .le 19, 3) := by decide +kernel
theorem dX9_commonDivisor_26 : decode cX9_commonDivisor 26 = .ok (.iload_n 2, 1) := by decide +kernel
theorem dX9_commonDivisor_27 : decode cX9_commonDivisor 27 = .ok (.iload_n 3, 1) := by decide +kernel
theorem dX9_commonDivisor_28 : decode cX9_commonDivisor 28 = .ok (.irem, 1) := by decide +kernel
theorem dX9_commonDivisor_29 : decode cX9_commonDivisor 29 = .ok (.istore 5, 2) := by decide +kernel
theorem dX9_commonDivisor_31 : decode cX9_commonDivisor 31 = .ok (.iload_n 3, 1) := by decide +kernel
theorem dX9_commonDivisor_32 : decode cX9_commonDivisor 32 = .ok (.istore_n 2, 1) := by decide +kernel
theorem dX9_commonDivisor_33 : decode cX9_commonDivisor 33 = .ok (.iload 5, 2) := by decide +kernel
theorem dX9_commonDivisor_35 : decode cX9_commonDivisor 35 = .ok (.istore_n 3, 1) := by decide +kernel
theorem dX9_commonDivisor_36 : decode cX9_commonDivisor 36 = .ok (.iinc 4 1, 3) := by decide +kernel
theorem dX9_commonDivisor_39 : decode cX9_commonDivisor 39 = .ok (.goto (-24), 3) := by decide +kernel
theorem dX9_commonDivisor_42 : decode cX9_commonDivisor 42 = .ok (.iload_n 2, 1) := by decide +kernel
theorem dX9_commonDivisor_43 : decode cX9_commonDivisor 43 = .ok (.ireturn, 1) := by decide +kernel
theorem dX9_filled_0 : decode cX9_filled 0 = .ok (.iconst 0, 1) := by decide +kernel
theorem dX9_filled_1 : decode cX9_filled 1 = .ok (.istore_n 1, 1) := by decide +kernel
theorem dX9_filled_2 : decode cX9_filled 2 = .ok (.aload_n 0, 1) := by decide +kernel
theorem dX9_filled_3 : decode cX9_filled 3 = .ok (.astore_n 2, 1) := by decide +kernel
theorem dX9_filled_4 : decode cX9_filled 4 = .ok (.aload_n 2, 1) := by decide +kernel
theorem dX9_filled_5 : decode cX9_filled 5 = .ok (.arraylength, 1) := by decide +kernel
theorem dX9_filled_6 : decode cX9_filled 6 = .ok (.istore_n 3, 1) := by decide +kernel
theorem dX9_filled_7 : decode cX9_filled 7 = .ok (.iconst 0, 1) := by decide +kernel
theorem dX9_filled_8 : decode cX9_filled 8 = .ok (.istore 4, 2) := by decide +kernel
theorem dX9_filled_10 : decode cX9_filled 10 = .ok (.iload 4, 2) := by decide +kernel
theorem dX9_filled_12 : decode cX9_filled 12 = .ok (.iload_n 3, 1) := by decide +kernel
theorem dX9_filled_13 : decode cX9_filled 13 = .ok (.if_icmp .ge 24, 3) := by decide +kernel
theorem dX9_filled_16 : decode cX9_filled 16 = .ok (.aload_n 2, 1) := by decide +kernel
theorem dX9_filled_17 : decode cX9_filled 17 = .ok (.iload 4, 2) := by decide +kernel
theorem dX9_filled_19 : decode cX9_filled 19 = .ok (.iaload, 1) := by decide +kernel
theorem dX9_filled_20 : decode cX9_filled 20 = .ok (.istore 5, 2) := by decide +kernel
theorem dX9_filled_22 : decode cX9_filled 22 = .ok (.iload 5, 2) := by decide +kernel
theorem dX9_filled_24 : decode cX9_filled 24 = .ok (.iconst (-1), 1) := by decide +kernel
theorem dX9_filled_25 : decode cX9_filled 25 = .ok (.if_icmp .eq 6, 3) := by decide +kernel
theorem dX9_filled_28 : decode cX9_filled 28 = .ok (.iinc 1 1, 3) := by decide +kernel
theorem dX9_filled_31 : decode cX9_filled 31 = .ok (.iinc 4 1, 3) := by decide +kernel
theorem dX9_filled_34 : decode cX9_filled 34 = .ok (.goto (-24), 3) := by decide +kernel
theorem dX9_filled_37 : decode cX9_filled 37 = .ok (.iload_n 1, 1) := by decide +kernel
theorem dX9_filled_38 : decode cX9_filled 38 = .ok (.ireturn, 1) := by decide +kernel
set_option maxRecDepth 20000 in
theorem ggX9_barredByRoom_X1_standingIn : GoodIn wsX9_barredByRoom wsX1_standingIn := goodIn_r _ [7, 8, 25, 26, 27, 28, 29, 30, 31, 32, 33, 34, 35, 36, 37] rfl (by decide +kernel)
set_option maxRecDepth 20000 in
theorem gX9_barredByRoom_X1_standingIn : GoodIn wsX9_barredByRoom (wsV RX9 291 RX1 yX1_standingIn wsX1_standingIn) := goodIn_app (goodIn_of _ (by decide +kernel)) ggX9_barredByRoom_X1_standingIn
theorem dX9_barredByRoom_0 : decode cX9_barredByRoom 0 = .ok (.iload_n 1, 1) := by decide +kernel
theorem dX9_barredByRoom_1 : decode cX9_barredByRoom 1 = .ok (.bipush 6, 2) := by decide +kernel
theorem dX9_barredByRoom_3 : decode cX9_barredByRoom 3 = .ok (.idiv, 1) := by decide +kernel
theorem dX9_barredByRoom_4 : decode cX9_barredByRoom 4 = .ok (.istore_n 2, 1) := by decide +kernel
theorem dX9_barredByRoom_5 : decode cX9_barredByRoom 5 = .ok (.aload_n 0, 1) := by decide +kernel
theorem dX9_barredByRoom_6 : decode cX9_barredByRoom 6 = .ok (.getfield 76, 3) := by decide +kernel
theorem dX9_barredByRoom_9 : decode cX9_barredByRoom 9 = .ok (.getfield 288, 3) := by decide +kernel
theorem dX9_barredByRoom_12 : decode cX9_barredByRoom 12 = .ok (.iload_n 2, 1) := by decide +kernel
theorem dX9_barredByRoom_13 : decode cX9_barredByRoom 13 = .ok (.iaload, 1) := by decide +kernel
theorem dX9_barredByRoom_14 : decode cX9_barredByRoom 14 = .ok (.istore_n 3, 1) := by decide +kernel
theorem dX9_barredByRoom_15 : decode cX9_barredByRoom 15 = .ok (.iload_n 3, 1) := by decide +kernel
theorem dX9_barredByRoom_16 : decode cX9_barredByRoom 16 = .ok (.iconst (-1), 1) := by decide +kernel
theorem dX9_barredByRoom_17 : decode cX9_barredByRoom 17 = .ok (.if_icmp .eq 19, 3) := by decide +kernel
theorem dX9_barredByRoom_20 : decode cX9_barredByRoom 20 = .ok (.aload_n 0, 1) := by decide +kernel
theorem dX9_barredByRoom_21 : decode cX9_barredByRoom 21 = .ok (.getfield 28, 3) := by decide +kernel
theorem dX9_barredByRoom_24 : decode cX9_barredByRoom 24 = .ok (.iload_n 2, 1) := by decide +kernel
theorem dX9_barredByRoom_25 : decode cX9_barredByRoom 25 = .ok (.invokevirtual 291, 3) := by decide +kernel
theorem dX9_barredByRoom_28 : decode cX9_barredByRoom 28 = .ok (.iload_n 3, 1) := by decide +kernel
theorem dX9_barredByRoom_29 : decode cX9_barredByRoom 29 = .ok (.if_icmp .lt 7, 3) := by decide +kernel
theorem dX9_barredByRoom_32 : decode cX9_barredByRoom 32 = .ok (.iconst 1, 1) := by decide +kernel
theorem dX9_barredByRoom_33 : decode cX9_barredByRoom 33 = .ok (.goto 4, 3) := by decide +kernel
theorem dX9_barredByRoom_36 : decode cX9_barredByRoom 36 = .ok (.iconst 0, 1) := by decide +kernel
theorem dX9_barredByRoom_37 : decode cX9_barredByRoom 37 = .ok (.ireturn, 1) := by decide +kernel
theorem dX9_barredByAgain_0 : decode cX9_barredByAgain 0 = .ok (.aload_n 0, 1) := by decide +kernel
theorem dX9_barredByAgain_1 : decode cX9_barredByAgain 1 = .ok (.getfield 28, 3) := by decide +kernel
theorem dX9_barredByAgain_4 : decode cX9_barredByAgain 4 = .ok (.getfield 150, 3) := by decide +kernel
theorem dX9_barredByAgain_7 : decode cX9_barredByAgain 7 = .ok (.iload_n 1, 1) := by decide +kernel
theorem dX9_barredByAgain_8 : decode cX9_barredByAgain 8 = .ok (.iaload, 1) := by decide +kernel
theorem dX9_barredByAgain_9 : decode cX9_barredByAgain 9 = .ok (.istore_n 2, 1) := by decide +kernel
theorem dX9_barredByAgain_10 : decode cX9_barredByAgain 10 = .ok (.aload_n 0, 1) := by decide +kernel
theorem dX9_barredByAgain_11 : decode cX9_barredByAgain 11 = .ok (.getfield 76, 3) := by decide +kernel
