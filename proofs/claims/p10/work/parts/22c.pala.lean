theorem dX9_right_30 : decode cX9_right 30 = .ok (.iaload, 1) := by decide +kernel
theorem dX9_right_31 : decode cX9_right 31 = .ok (.iconst (-1), 1) := by decide +kernel
theorem dX9_right_32 : decode cX9_right 32 = .ok (.if_icmp .ne 6, 3) := by decide +kernel
theorem dX9_right_35 : decode cX9_right 35 = .ok (.bipush (-4), 2) := by decide +kernel
theorem dX9_right_37 : decode cX9_right 37 = .ok (.ireturn, 1) := by decide +kernel
theorem dX9_right_38 : decode cX9_right 38 = .ok (.aload_n 0, 1) := by decide +kernel
theorem dX9_right_39 : decode cX9_right 39 = .ok (.getfield 28, 3) := by decide +kernel
theorem dX9_right_42 : decode cX9_right 42 = .ok (.getfield 141, 3) := by decide +kernel
theorem dX9_right_45 : decode cX9_right 45 = .ok (.iload_n 1, 1) := by decide +kernel
theorem dX9_right_46 : decode cX9_right 46 = .ok (.iaload, 1) := by decide +kernel
theorem dX9_right_47 : decode cX9_right 47 = .ok (.istore_n 3, 1) := by decide +kernel
theorem dX9_right_48 : decode cX9_right 48 = .ok (.iload_n 3, 1) := by decide +kernel
theorem dX9_right_49 : decode cX9_right 49 = .ok (.aload_n 0, 1) := by decide +kernel
theorem dX9_right_50 : decode cX9_right 50 = .ok (.getfield 28, 3) := by decide +kernel
theorem dX9_right_53 : decode cX9_right 53 = .ok (.iload_n 1, 1) := by decide +kernel
theorem dX9_right_54 : decode cX9_right 54 = .ok (.invokevirtual 221, 3) := by decide +kernel
theorem dX9_right_57 : decode cX9_right 57 = .ok (.iadd, 1) := by decide +kernel
theorem dX9_right_58 : decode cX9_right 58 = .ok (.istore 4, 2) := by decide +kernel
theorem dX9_right_60 : decode cX9_right 60 = .ok (.iload_n 3, 1) := by decide +kernel
theorem dX9_right_61 : decode cX9_right 61 = .ok (.iload 4, 2) := by decide +kernel
theorem dX9_right_63 : decode cX9_right 63 = .ok (.invokestatic 224, 3) := by decide +kernel
theorem dX9_right_66 : decode cX9_right 66 = .ok (.istore 5, 2) := by decide +kernel
theorem dX9_right_68 : decode cX9_right 68 = .ok (.iload 5, 2) := by decide +kernel
theorem dX9_right_70 : decode cX9_right 70 = .ok (.ifCond .gt 6, 3) := by decide +kernel
theorem dX9_right_73 : decode cX9_right 73 = .ok (.bipush (-4), 2) := by decide +kernel
theorem dX9_right_75 : decode cX9_right 75 = .ok (.ireturn, 1) := by decide +kernel
theorem dX9_right_76 : decode cX9_right 76 = .ok (.iload_n 2, 1) := by decide +kernel
theorem dX9_right_77 : decode cX9_right 77 = .ok (.ifCond .ne 7, 3) := by decide +kernel
theorem dX9_right_80 : decode cX9_right 80 = .ok (.iload_n 3, 1) := by decide +kernel
theorem dX9_right_81 : decode cX9_right 81 = .ok (.goto 5, 3) := by decide +kernel
theorem dX9_right_84 : decode cX9_right 84 = .ok (.iload 4, 2) := by decide +kernel
theorem dX9_right_86 : decode cX9_right 86 = .ok (.iload 5, 2) := by decide +kernel
theorem dX9_right_88 : decode cX9_right 88 = .ok (.idiv, 1) := by decide +kernel
theorem dX9_right_89 : decode cX9_right 89 = .ok (.ireturn, 1) := by decide +kernel
set_option maxRecDepth 20000 in
theorem ggX9_causes_X9_isCorner : GoodIn wsX9_causes wsX9_isCorner := goodIn_r _ [5, 6, 7, 4, 8] rfl (by decide +kernel)
set_option maxRecDepth 20000 in
theorem gX9_causes_X9_isCorner : GoodIn wsX9_causes (va_wsS RX9 125 yX9_isCorner wsX9_isCorner) := goodIn_app (goodIn_of _ (by decide +kernel)) ggX9_causes_X9_isCorner
set_option maxRecDepth 20000 in
theorem ggX9_causes_X9_isThing : GoodIn wsX9_causes wsX9_isThing := goodIn_r _ [11, 6, 7, 4, 8] rfl (by decide +kernel)
set_option maxRecDepth 20000 in
theorem gX9_causes_X9_isThing : GoodIn wsX9_causes (va_wsS RX9 103 yX9_isThing wsX9_isThing) := goodIn_app (goodIn_of _ (by decide +kernel)) ggX9_causes_X9_isThing
set_option maxRecDepth 20000 in
theorem ggX9_causes_X1_muchAlike : GoodIn wsX9_causes wsX1_muchAlike := goodIn_r _ [16, 17, 18, 19, 20, 21, 22, 23, 24, 25, 26, 27, 28, 29, 30, 31, 58, 59, 60, 61, 62, 63, 64, 65, 66, 67, 68, 69, 70, 71] rfl (by decide +kernel)
set_option maxRecDepth 20000 in
theorem gX9_causes_X1_muchAlike : GoodIn wsX9_causes (wsV RX9 227 RX1 yX1_muchAlike wsX1_muchAlike) := goodIn_app (goodIn_of _ (by decide +kernel)) ggX9_causes_X1_muchAlike
set_option maxRecDepth 20000 in
theorem ggX9_causes_X9_standsThroughDoor : GoodIn wsX9_causes wsX9_standsThroughDoor := goodIn_r _ [35, 1, 36, 37, 38, 39, 40, 41, 42, 43, 44, 45, 46, 47, 48, 49, 50, 51, 52, 53, 54, 55, 56, 57, 58, 59, 60, 61, 62, 63, 64, 65, 66, 67, 68, 69, 70, 72, 73] rfl (by decide +kernel)
set_option maxRecDepth 20000 in
theorem gX9_causes_X9_standsThroughDoor : GoodIn wsX9_causes (wsV RX9 230 RX9 yX9_standsThroughDoor wsX9_standsThroughDoor) := goodIn_app (goodIn_of _ (by decide +kernel)) ggX9_causes_X9_standsThroughDoor
theorem dX9_causes_0 : decode cX9_causes 0 = .ok (.iload_n 1, 1) := by decide +kernel
theorem dX9_causes_1 : decode cX9_causes 1 = .ok (.invokestatic 125, 3) := by decide +kernel
theorem dX9_causes_4 : decode cX9_causes 4 = .ok (.ifCond .eq 10, 3) := by decide +kernel
theorem dX9_causes_7 : decode cX9_causes 7 = .ok (.iload_n 2, 1) := by decide +kernel
theorem dX9_causes_8 : decode cX9_causes 8 = .ok (.invokestatic 103, 3) := by decide +kernel
theorem dX9_causes_11 : decode cX9_causes 11 = .ok (.ifCond .ne 6, 3) := by decide +kernel
theorem dX9_causes_14 : decode cX9_causes 14 = .ok (.bipush (-2), 2) := by decide +kernel
theorem dX9_causes_16 : decode cX9_causes 16 = .ok (.ireturn, 1) := by decide +kernel
theorem dX9_causes_17 : decode cX9_causes 17 = .ok (.aload_n 0, 1) := by decide +kernel
theorem dX9_causes_18 : decode cX9_causes 18 = .ok (.getfield 28, 3) := by decide +kernel
theorem dX9_causes_21 : decode cX9_causes 21 = .ok (.getfield 131, 3) := by decide +kernel
theorem dX9_causes_24 : decode cX9_causes 24 = .ok (.iload_n 1, 1) := by decide +kernel
theorem dX9_causes_25 : decode cX9_causes 25 = .ok (.iaload, 1) := by decide +kernel
theorem dX9_causes_26 : decode cX9_causes 26 = .ok (.istore_n 3, 1) := by decide +kernel
theorem dX9_causes_27 : decode cX9_causes 27 = .ok (.iload_n 3, 1) := by decide +kernel
theorem dX9_causes_28 : decode cX9_causes 28 = .ok (.iconst (-1), 1) := by decide +kernel
theorem dX9_causes_29 : decode cX9_causes 29 = .ok (.if_icmp .eq 8, 3) := by decide +kernel
theorem dX9_causes_32 : decode cX9_causes 32 = .ok (.iload_n 3, 1) := by decide +kernel
theorem dX9_causes_33 : decode cX9_causes 33 = .ok (.iload_n 2, 1) := by decide +kernel
theorem dX9_causes_34 : decode cX9_causes 34 = .ok (.if_icmp .ne 6, 3) := by decide +kernel
theorem dX9_causes_37 : decode cX9_causes 37 = .ok (.bipush (-4), 2) := by decide +kernel
theorem dX9_causes_39 : decode cX9_causes 39 = .ok (.ireturn, 1) := by decide +kernel
theorem dX9_causes_40 : decode cX9_causes 40 = .ok (.iconst 0, 1) := by decide +kernel
theorem dX9_causes_41 : decode cX9_causes 41 = .ok (.istore 4, 2) := by decide +kernel
theorem dX9_causes_43 : decode cX9_causes 43 = .ok (.aload_n 0, 1) := by decide +kernel
theorem dX9_causes_44 : decode cX9_causes 44 = .ok (.getfield 28, 3) := by decide +kernel
theorem dX9_causes_47 : decode cX9_causes 47 = .ok (.iload_n 3, 1) := by decide +kernel
theorem dX9_causes_48 : decode cX9_causes 48 = .ok (.iload_n 2, 1) := by decide +kernel
theorem dX9_causes_49 : decode cX9_causes 49 = .ok (.invokevirtual 227, 3) := by decide +kernel
theorem dX9_causes_52 : decode cX9_causes 52 = .ok (.ifCond .eq 6, 3) := by decide +kernel
theorem dX9_causes_55 : decode cX9_causes 55 = .ok (.iinc 4 1, 3) := by decide +kernel
theorem dX9_causes_58 : decode cX9_causes 58 = .ok (.aload_n 0, 1) := by decide +kernel
theorem dX9_causes_59 : decode cX9_causes 59 = .ok (.getfield 28, 3) := by decide +kernel
theorem dX9_causes_62 : decode cX9_causes 62 = .ok (.getfield 144, 3) := by decide +kernel
theorem dX9_causes_65 : decode cX9_causes 65 = .ok (.iload_n 1, 1) := by decide +kernel
theorem dX9_causes_66 : decode cX9_causes 66 = .ok (.iaload, 1) := by decide +kernel
theorem dX9_causes_67 : decode cX9_causes 67 = .ok (.iload_n 2, 1) := by decide +kernel
theorem dX9_causes_68 : decode cX9_causes 68 = .ok (.if_icmp .ne 6, 3) := by decide +kernel
theorem dX9_causes_71 : decode cX9_causes 71 = .ok (.iinc 4 2, 3) := by decide +kernel
theorem dX9_causes_74 : decode cX9_causes 74 = .ok (.aload_n 0, 1) := by decide +kernel
theorem dX9_causes_75 : decode cX9_causes 75 = .ok (.iload_n 1, 1) := by decide +kernel
theorem dX9_causes_76 : decode cX9_causes 76 = .ok (.iload_n 2, 1) := by decide +kernel
theorem dX9_causes_77 : decode cX9_causes 77 = .ok (.invokevirtual 230, 3) := by decide +kernel
theorem dX9_causes_80 : decode cX9_causes 80 = .ok (.ifCond .eq 6, 3) := by decide +kernel
theorem dX9_causes_83 : decode cX9_causes 83 = .ok (.iinc 4 4, 3) := by decide +kernel
theorem dX9_causes_86 : decode cX9_causes 86 = .ok (.iload 4, 2) := by decide +kernel
theorem dX9_causes_88 : decode cX9_causes 88 = .ok (.ireturn, 1) := by decide +kernel
set_option maxRecDepth 20000 in
theorem ggX9_asked_X9_isThing : GoodIn wsX9_asked wsX9_isThing := goodIn_r _ [6, 7, 8, 5, 9] rfl (by decide +kernel)
set_option maxRecDepth 20000 in
theorem gX9_asked_X9_isThing : GoodIn wsX9_asked (va_wsS RX9 103 yX9_isThing wsX9_isThing) := goodIn_app (goodIn_of _ (by decide +kernel)) ggX9_asked_X9_isThing
set_option maxRecDepth 20000 in
theorem ggX9_asked_X9_isRoom : GoodIn wsX9_asked wsX9_isRoom := goodIn_r _ [12, 7, 8, 5, 9] rfl (by decide +kernel)
set_option maxRecDepth 20000 in
theorem gX9_asked_X9_isRoom : GoodIn wsX9_asked (va_wsS RX9 83 yX9_isRoom wsX9_isRoom) := goodIn_app (goodIn_of _ (by decide +kernel)) ggX9_asked_X9_isRoom
set_option maxRecDepth 20000 in
theorem ggX9_asked_X8_between : GoodIn wsX9_asked wsX8_between := goodIn_r _ [17, 18, 43, 44] rfl (by decide +kernel)
set_option maxRecDepth 20000 in
theorem gX9_asked_X8_between : GoodIn wsX9_asked (wsV RX9 99 RX8 yX8_between wsX8_between) := goodIn_app (goodIn_of _ (by decide +kernel)) ggX9_asked_X8_between
theorem dX9_asked_0 : decode cX9_asked 0 = .ok (.iload_n 1, 1) := by decide +kernel
theorem dX9_asked_1 : decode cX9_asked 1 = .ok (.invokestatic 103, 3) := by decide +kernel
theorem dX9_asked_4 : decode cX9_asked 4 = .ok (.ifCond .eq 10, 3) := by decide +kernel
theorem dX9_asked_7 : decode cX9_asked 7 = .ok (.iload_n 2, 1) := by decide +kernel
theorem dX9_asked_8 : decode cX9_asked 8 = .ok (.invokestatic 83, 3) := by decide +kernel
theorem dX9_asked_11 : decode cX9_asked 11 = .ok (.ifCond .ne 6, 3) := by decide +kernel
theorem dX9_asked_14 : decode cX9_asked 14 = .ok (.bipush (-2), 2) := by decide +kernel
theorem dX9_asked_16 : decode cX9_asked 16 = .ok (.ireturn, 1) := by decide +kernel
theorem dX9_asked_17 : decode cX9_asked 17 = .ok (.aload_n 0, 1) := by decide +kernel
theorem dX9_asked_18 : decode cX9_asked 18 = .ok (.getfield 28, 3) := by decide +kernel
theorem dX9_asked_21 : decode cX9_asked 21 = .ok (.getfield 128, 3) := by decide +kernel
theorem dX9_asked_24 : decode cX9_asked 24 = .ok (.iload_n 1, 1) := by decide +kernel
theorem dX9_asked_25 : decode cX9_asked 25 = .ok (.iaload, 1) := by decide +kernel
theorem dX9_asked_26 : decode cX9_asked 26 = .ok (.istore_n 3, 1) := by decide +kernel
theorem dX9_asked_27 : decode cX9_asked 27 = .ok (.iload_n 3, 1) := by decide +kernel
theorem dX9_asked_28 : decode cX9_asked 28 = .ok (.iconst (-1), 1) := by decide +kernel
theorem dX9_asked_29 : decode cX9_asked 29 = .ok (.if_icmp .ne 5, 3) := by decide +kernel
theorem dX9_asked_32 : decode cX9_asked 32 = .ok (.iconst (-1), 1) := by decide +kernel
theorem dX9_asked_33 : decode cX9_asked 33 = .ok (.ireturn, 1) := by decide +kernel
theorem dX9_asked_34 : decode cX9_asked 34 = .ok (.aload_n 0, 1) := by decide +kernel
theorem dX9_asked_35 : decode cX9_asked 35 = .ok (.getfield 12, 3) := by decide +kernel
theorem dX9_asked_38 : decode cX9_asked 38 = .ok (.iload_n 2, 1) := by decide +kernel
theorem dX9_asked_39 : decode cX9_asked 39 = .ok (.iload_n 3, 1) := by decide +kernel
theorem dX9_asked_40 : decode cX9_asked 40 = .ok (.bipush 6, 2) := by decide +kernel
theorem dX9_asked_42 : decode cX9_asked 42 = .ok (.idiv, 1) := by decide +kernel
theorem dX9_asked_43 : decode cX9_asked 43 = .ok (.invokevirtual 99, 3) := by decide +kernel
theorem dX9_asked_46 : decode cX9_asked 46 = .ok (.istore 4, 2) := by decide +kernel
theorem dX9_asked_48 : decode cX9_asked 48 = .ok (.iload 4, 2) := by decide +kernel
theorem dX9_asked_50 : decode cX9_asked 50 = .ok (.iconst (-1), 1) := by decide +kernel
theorem dX9_asked_51 : decode cX9_asked 51 = .ok (.if_icmp .ne 7, 3) := by decide +kernel
theorem dX9_asked_54 : decode cX9_asked 54 = .ok (.iconst (-1), 1) := by decide +kernel
theorem dX9_asked_55 : decode cX9_asked 55 = .ok (.goto 12, 3) := by decide +kernel
theorem dX9_asked_58 : decode cX9_asked 58 = .ok (.iload 4, 2) := by decide +kernel
theorem dX9_asked_60 : decode cX9_asked 60 = .ok (.iload_n 3, 1) := by decide +kernel
theorem dX9_asked_61 : decode cX9_asked 61 = .ok (.bipush 6, 2) := by decide +kernel
theorem dX9_asked_63 : decode cX9_asked 63 = .ok (.irem, 1) := by decide +kernel
theorem dX9_asked_64 : decode cX9_asked 64 = .ok (.iadd, 1) := by decide +kernel
theorem dX9_asked_65 : decode cX9_asked 65 = .ok (.iconst 1, 1) := by decide +kernel
theorem dX9_asked_66 : decode cX9_asked 66 = .ok (.iadd, 1) := by decide +kernel
theorem dX9_asked_67 : decode cX9_asked 67 = .ok (.ireturn, 1) := by decide +kernel
set_option maxRecDepth 20000 in
theorem ggX9_beside_X9_isThing : GoodIn wsX9_beside wsX9_isThing := goodIn_r _ [5, 6, 7, 4, 8] rfl (by decide +kernel)
set_option maxRecDepth 20000 in
theorem gX9_beside_X9_isThing : GoodIn wsX9_beside (va_wsS RX9 103 yX9_isThing wsX9_isThing) := goodIn_app (goodIn_of _ (by decide +kernel)) ggX9_beside_X9_isThing
set_option maxRecDepth 20000 in
theorem ggX9_beside_X9_within : GoodIn wsX9_beside wsX9_within := goodIn_r _ [8] rfl (by decide +kernel)
set_option maxRecDepth 20000 in
theorem gX9_beside_X9_within : GoodIn wsX9_beside (va_wsS RX9 106 yX9_within wsX9_within) := goodIn_app (goodIn_of _ (by decide +kernel)) ggX9_beside_X9_within
set_option maxRecDepth 20000 in
theorem ggX9_beside_X1_nextOnTop : GoodIn wsX9_beside wsX1_nextOnTop := goodIn_r _ [13, 14, 26, 27, 28, 29, 30, 31, 32, 33, 34, 35, 36, 37, 38] rfl (by decide +kernel)
set_option maxRecDepth 20000 in
theorem gX9_beside_X1_nextOnTop : GoodIn wsX9_beside (wsV RX9 233 RX1 yX1_nextOnTop wsX1_nextOnTop) := goodIn_app (goodIn_of _ (by decide +kernel)) ggX9_beside_X1_nextOnTop
theorem dX9_beside_0 : decode cX9_beside 0 = .ok (.iload_n 1, 1) := by decide +kernel
theorem dX9_beside_1 : decode cX9_beside 1 = .ok (.invokestatic 103, 3) := by decide +kernel
theorem dX9_beside_4 : decode cX9_beside 4 = .ok (.ifCond .ne 6, 3) := by decide +kernel
theorem dX9_beside_7 : decode cX9_beside 7 = .ok (.bipush (-2), 2) := by decide +kernel
theorem dX9_beside_9 : decode cX9_beside 9 = .ok (.ireturn, 1) := by decide +kernel
theorem dX9_beside_10 : decode cX9_beside 10 = .ok (.iload_n 2, 1) := by decide +kernel
theorem dX9_beside_11 : decode cX9_beside 11 = .ok (.iconst 0, 1) := by decide +kernel
theorem dX9_beside_12 : decode cX9_beside 12 = .ok (.iconst 1, 1) := by decide +kernel
theorem dX9_beside_13 : decode cX9_beside 13 = .ok (.invokestatic 106, 3) := by decide +kernel
theorem dX9_beside_16 : decode cX9_beside 16 = .ok (.ifCond .ne 6, 3) := by decide +kernel
theorem dX9_beside_19 : decode cX9_beside 19 = .ok (.bipush (-3), 2) := by decide +kernel
theorem dX9_beside_21 : decode cX9_beside 21 = .ok (.ireturn, 1) := by decide +kernel
theorem dX9_beside_22 : decode cX9_beside 22 = .ok (.aload_n 0, 1) := by decide +kernel
theorem dX9_beside_23 : decode cX9_beside 23 = .ok (.getfield 28, 3) := by decide +kernel
theorem dX9_beside_26 : decode cX9_beside 26 = .ok (.getfield 128, 3) := by decide +kernel
theorem dX9_beside_29 : decode cX9_beside 29 = .ok (.iload_n 1, 1) := by decide +kernel
theorem dX9_beside_30 : decode cX9_beside 30 = .ok (.iaload, 1) := by decide +kernel
theorem dX9_beside_31 : decode cX9_beside 31 = .ok (.istore_n 3, 1) := by decide +kernel
theorem dX9_beside_32 : decode cX9_beside 32 = .ok (.iload_n 3, 1) := by decide +kernel
theorem dX9_beside_33 : decode cX9_beside 33 = .ok (.iconst (-1), 1) := by decide +kernel
theorem dX9_beside_34 : decode cX9_beside 34 = .ok (.if_icmp .ne 7, 3) := by decide +kernel
theorem dX9_beside_37 : decode cX9_beside 37 = .ok (.iconst (-1), 1) := by decide +kernel
theorem dX9_beside_38 : decode cX9_beside 38 = .ok (.goto 21, 3) := by decide +kernel
theorem dX9_beside_41 : decode cX9_beside 41 = .ok (.aload_n 0, 1) := by decide +kernel
theorem dX9_beside_42 : decode cX9_beside 42 = .ok (.getfield 28, 3) := by decide +kernel
theorem dX9_beside_45 : decode cX9_beside 45 = .ok (.iload_n 3, 1) := by decide +kernel
theorem dX9_beside_46 : decode cX9_beside 46 = .ok (.iload_n 2, 1) := by decide +kernel
theorem dX9_beside_47 : decode cX9_beside 47 = .ok (.iconst 1, 1) := by decide +kernel
theorem dX9_beside_48 : decode cX9_beside 48 = .ok (.if_icmp .ne 7, 3) := by decide +kernel
theorem dX9_beside_51 : decode cX9_beside 51 = .ok (.iconst 1, 1) := by decide +kernel
theorem dX9_beside_52 : decode cX9_beside 52 = .ok (.goto 4, 3) := by decide +kernel
theorem dX9_beside_55 : decode cX9_beside 55 = .ok (.iconst (-1), 1) := by decide +kernel
theorem dX9_beside_56 : decode cX9_beside 56 = .ok (.invokevirtual 233, 3) := by decide +kernel
theorem dX9_beside_59 : decode cX9_beside 59 = .ok (.ireturn, 1) := by decide +kernel
set_option maxRecDepth 20000 in
theorem ggX9_answer_X9_within : GoodIn wsX9_answer wsX9_within := goodIn_r _ [5] rfl (by decide +kernel)
set_option maxRecDepth 20000 in
theorem gX9_answer_X9_within : GoodIn wsX9_answer (va_wsS RX9 106 yX9_within wsX9_within) := goodIn_app (goodIn_of _ (by decide +kernel)) ggX9_answer_X9_within
set_option maxRecDepth 20000 in
theorem ggX9_answer_X4_note : GoodIn wsX9_answer wsX4_note := goodIn_r _ [10, 11, 12, 13, 14, 9, 15, 16, 17, 18, 19, 20, 21, 33, 34] rfl (by decide +kernel)
set_option maxRecDepth 20000 in
theorem gX9_answer_X4_note : GoodIn wsX9_answer (wsV RX9 239 RX4 yX4_note wsX4_note) := goodIn_app (goodIn_of _ (by decide +kernel)) ggX9_answer_X4_note
theorem dX9_answer_0 : decode cX9_answer 0 = .ok (.iload_n 1, 1) := by decide +kernel
theorem dX9_answer_1 : decode cX9_answer 1 = .ok (.iconst 0, 1) := by decide +kernel
theorem dX9_answer_2 : decode cX9_answer 2 = .ok (.iconst 3, 1) := by decide +kernel
theorem dX9_answer_3 : decode cX9_answer 3 = .ok (.invokestatic 106, 3) := by decide +kernel
theorem dX9_answer_6 : decode cX9_answer 6 = .ok (.ifCond .ne 6, 3) := by decide +kernel
theorem dX9_answer_9 : decode cX9_answer 9 = .ok (.bipush (-2), 2) := by decide +kernel
theorem dX9_answer_11 : decode cX9_answer 11 = .ok (.ireturn, 1) := by decide +kernel
theorem dX9_answer_12 : decode cX9_answer 12 = .ok (.iload_n 2, 1) := by decide +kernel
theorem dX9_answer_13 : decode cX9_answer 13 = .ok (.iconst 1, 1) := by decide +kernel
theorem dX9_answer_14 : decode cX9_answer 14 = .ok (.bipush 60, 2) := by decide +kernel
theorem dX9_answer_16 : decode cX9_answer 16 = .ok (.invokestatic 106, 3) := by decide +kernel
theorem dX9_answer_19 : decode cX9_answer 19 = .ok (.ifCond .ne 6, 3) := by decide +kernel
theorem dX9_answer_22 : decode cX9_answer 22 = .ok (.bipush (-3), 2) := by decide +kernel
theorem dX9_answer_24 : decode cX9_answer 24 = .ok (.ireturn, 1) := by decide +kernel
theorem dX9_answer_25 : decode cX9_answer 25 = .ok (.aload_n 0, 1) := by decide +kernel
theorem dX9_answer_26 : decode cX9_answer 26 = .ok (.getfield 64, 3) := by decide +kernel
theorem dX9_answer_29 : decode cX9_answer 29 = .ok (.iload_n 1, 1) := by decide +kernel
theorem dX9_answer_30 : decode cX9_answer 30 = .ok (.aaload, 1) := by decide +kernel
theorem dX9_answer_31 : decode cX9_answer 31 = .ok (.astore 4, 2) := by decide +kernel
theorem dX9_answer_33 : decode cX9_answer 33 = .ok (.aload 4, 2) := by decide +kernel
theorem dX9_answer_35 : decode cX9_answer 35 = .ok (.getfield 236, 3) := by decide +kernel
theorem dX9_answer_38 : decode cX9_answer 38 = .ok (.bipush 12, 2) := by decide +kernel
theorem dX9_answer_40 : decode cX9_answer 40 = .ok (.if_icmp .lt 6, 3) := by decide +kernel
theorem dX9_answer_43 : decode cX9_answer 43 = .ok (.bipush (-5), 2) := by decide +kernel
theorem dX9_answer_45 : decode cX9_answer 45 = .ok (.ireturn, 1) := by decide +kernel
theorem dX9_answer_46 : decode cX9_answer 46 = .ok (.aload 4, 2) := by decide +kernel
theorem dX9_answer_48 : decode cX9_answer 48 = .ok (.iload_n 2, 1) := by decide +kernel
theorem dX9_answer_49 : decode cX9_answer 49 = .ok (.iload_n 3, 1) := by decide +kernel
theorem dX9_answer_50 : decode cX9_answer 50 = .ok (.invokevirtual 239, 3) := by decide +kernel
theorem dX9_answer_53 : decode cX9_answer 53 = .ok (.aload 4, 2) := by decide +kernel
theorem dX9_answer_55 : decode cX9_answer 55 = .ok (.getfield 236, 3) := by decide +kernel
theorem dX9_answer_58 : decode cX9_answer 58 = .ok (.ireturn, 1) := by decide +kernel
set_option maxRecDepth 20000 in
theorem ggX9_pupil_X9_within : GoodIn wsX9_pupil wsX9_within := goodIn_r _ [5] rfl (by decide +kernel)
set_option maxRecDepth 20000 in
theorem gX9_pupil_X9_within : GoodIn wsX9_pupil (va_wsS RX9 106 yX9_within wsX9_within) := goodIn_app (goodIn_of _ (by decide +kernel)) ggX9_pupil_X9_within
set_option maxRecDepth 20000 in
theorem ggX9_pupil_X4_tablesThatMayBe : GoodIn wsX9_pupil wsX4_tablesThatMayBe := goodIn_r _ [10, 11, 12, 13, 9, 14, 15, 16, 62, 63] rfl (by decide +kernel)
set_option maxRecDepth 20000 in
theorem gX9_pupil_X4_tablesThatMayBe : GoodIn wsX9_pupil (wsV RX9 243 RX4 yX4_tablesThatMayBe wsX4_tablesThatMayBe) := goodIn_app (goodIn_of _ (by decide +kernel)) ggX9_pupil_X4_tablesThatMayBe
set_option maxRecDepth 20000 in
theorem ggX9_pupil_X4_nameOfLikeliest : GoodIn wsX9_pupil wsX4_nameOfLikeliest := goodIn_r _ [20, 21, 22, 23, 9, 24, 15, 25, 26, 27, 28, 29, 30, 62, 63] rfl (by decide +kernel)
set_option maxRecDepth 20000 in
theorem gX9_pupil_X4_nameOfLikeliest : GoodIn wsX9_pupil (wsV RX9 247 RX4 yX4_nameOfLikeliest wsX4_nameOfLikeliest) := goodIn_app (goodIn_of _ (by decide +kernel)) ggX9_pupil_X4_nameOfLikeliest
set_option maxRecDepth 20000 in
theorem ggX9_pupil_X4_agreementOfLikeliest : GoodIn wsX9_pupil wsX4_agreementOfLikeliest := goodIn_r _ [34, 15, 21, 22, 23, 9, 24, 62, 63] rfl (by decide +kernel)
set_option maxRecDepth 20000 in
theorem gX9_pupil_X4_agreementOfLikeliest : GoodIn wsX9_pupil (wsV RX9 250 RX4 yX4_agreementOfLikeliest wsX4_agreementOfLikeliest) := goodIn_app (goodIn_of _ (by decide +kernel)) ggX9_pupil_X4_agreementOfLikeliest
set_option maxRecDepth 20000 in
theorem ggX9_pupil_X4_dayThatParts : GoodIn wsX9_pupil wsX4_dayThatParts := goodIn_r _ [38, 39, 7, 8, 9, 10, 11, 12, 13, 14, 15, 16, 40, 41, 42, 43, 44, 45, 46, 47, 48, 49, 50, 25, 26, 27, 28, 29, 30, 62, 63] rfl (by decide +kernel)
set_option maxRecDepth 20000 in
theorem gX9_pupil_X4_dayThatParts : GoodIn wsX9_pupil (wsV RX9 253 RX4 yX4_dayThatParts wsX4_dayThatParts) := goodIn_app (goodIn_of _ (by decide +kernel)) ggX9_pupil_X4_dayThatParts
theorem dX9_pupil_0 : decode cX9_pupil 0 = .ok (.iload_n 1, 1) := by decide +kernel
theorem dX9_pupil_1 : decode cX9_pupil 1 = .ok (.iconst 0, 1) := by decide +kernel
theorem dX9_pupil_2 : decode cX9_pupil 2 = .ok (.iconst 3, 1) := by decide +kernel
theorem dX9_pupil_3 : decode cX9_pupil 3 = .ok (.invokestatic 106, 3) := by decide +kernel
theorem dX9_pupil_6 : decode cX9_pupil 6 = .ok (.ifCond .ne 6, 3) := by decide +kernel
theorem dX9_pupil_9 : decode cX9_pupil 9 = .ok (.bipush (-2), 2) := by decide +kernel
theorem dX9_pupil_11 : decode cX9_pupil 11 = .ok (.ireturn, 1) := by decide +kernel
theorem dX9_pupil_12 : decode cX9_pupil 12 = .ok (.aload_n 0, 1) := by decide +kernel
theorem dX9_pupil_13 : decode cX9_pupil 13 = .ok (.getfield 64, 3) := by decide +kernel
theorem dX9_pupil_16 : decode cX9_pupil 16 = .ok (.iload_n 1, 1) := by decide +kernel
theorem dX9_pupil_17 : decode cX9_pupil 17 = .ok (.aaload, 1) := by decide +kernel
theorem dX9_pupil_18 : decode cX9_pupil 18 = .ok (.astore_n 3, 1) := by decide +kernel
theorem dX9_pupil_19 : decode cX9_pupil 19 = .ok (.iload_n 2, 1) := by decide +kernel
theorem dX9_pupil_20 : decode cX9_pupil 20 = .ok (.tableswitch 52 0 3 #[32, 37, 42, 47], 32) := by decide +kernel
theorem dX9_pupil_52 : decode cX9_pupil 52 = .ok (.aload_n 3, 1) := by decide +kernel
theorem dX9_pupil_53 : decode cX9_pupil 53 = .ok (.invokevirtual 243, 3) := by decide +kernel
theorem dX9_pupil_56 : decode cX9_pupil 56 = .ok (.ireturn, 1) := by decide +kernel
theorem dX9_pupil_57 : decode cX9_pupil 57 = .ok (.aload_n 3, 1) := by decide +kernel
theorem dX9_pupil_58 : decode cX9_pupil 58 = .ok (.invokevirtual 247, 3) := by decide +kernel
theorem dX9_pupil_61 : decode cX9_pupil 61 = .ok (.ireturn, 1) := by decide +kernel
theorem dX9_pupil_62 : decode cX9_pupil 62 = .ok (.aload_n 3, 1) := by decide +kernel
theorem dX9_pupil_63 : decode cX9_pupil 63 = .ok (.invokevirtual 250, 3) := by decide +kernel
theorem dX9_pupil_66 : decode cX9_pupil 66 = .ok (.ireturn, 1) := by decide +kernel
theorem dX9_pupil_67 : decode cX9_pupil 67 = .ok (.aload_n 3, 1) := by decide +kernel
theorem dX9_pupil_68 : decode cX9_pupil 68 = .ok (.invokevirtual 253, 3) := by decide +kernel
