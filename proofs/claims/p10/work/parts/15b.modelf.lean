set_option maxRecDepth 20000 in
theorem ggX10_beside_X10_in : GoodIn wsX10_beside wsX10_in := goodIn_r _ [8] rfl (by decide +kernel)
set_option maxRecDepth 20000 in
theorem gX10_beside_X10_in : GoodIn wsX10_beside (va_wsS RX10 93 yX10_in wsX10_in) := goodIn_app (goodIn_of _ (by decide +kernel)) ggX10_beside_X10_in
set_option maxRecDepth 20000 in
theorem ggX10_beside_X10_cornerOf : GoodIn wsX10_beside wsX10_cornerOf := goodIn_r _ [12, 1, 13, 14, 15, 16, 17, 18, 19, 20, 21, 22, 23, 24, 25, 26, 27, 28, 29, 30, 31, 32, 33, 34, 35, 36, 37, 38, 39, 40, 41, 42, 43, 44, 45, 46, 47, 48, 49, 50, 51] rfl (by decide +kernel)
set_option maxRecDepth 20000 in
theorem gX10_beside_X10_cornerOf : GoodIn wsX10_beside (wsV RX10 121 RX10 yX10_cornerOf wsX10_cornerOf) := goodIn_app (goodIn_of _ (by decide +kernel)) ggX10_beside_X10_cornerOf
theorem dX10_beside_0 : decode cX10_beside 0 = .ok (.iload_n 1, 1) := by decide +kernel
theorem dX10_beside_1 : decode cX10_beside 1 = .ok (.invokestatic 112, 3) := by decide +kernel
theorem dX10_beside_4 : decode cX10_beside 4 = .ok (.ifCond .ne 6, 3) := by decide +kernel
theorem dX10_beside_7 : decode cX10_beside 7 = .ok (.bipush (-2), 2) := by decide +kernel
theorem dX10_beside_9 : decode cX10_beside 9 = .ok (.ireturn, 1) := by decide +kernel
theorem dX10_beside_10 : decode cX10_beside 10 = .ok (.iload_n 2, 1) := by decide +kernel
theorem dX10_beside_11 : decode cX10_beside 11 = .ok (.iconst 0, 1) := by decide +kernel
theorem dX10_beside_12 : decode cX10_beside 12 = .ok (.iconst 1, 1) := by decide +kernel
theorem dX10_beside_13 : decode cX10_beside 13 = .ok (.invokestatic 93, 3) := by decide +kernel
theorem dX10_beside_16 : decode cX10_beside 16 = .ok (.ifCond .ne 6, 3) := by decide +kernel
theorem dX10_beside_19 : decode cX10_beside 19 = .ok (.bipush (-3), 2) := by decide +kernel
theorem dX10_beside_21 : decode cX10_beside 21 = .ok (.ireturn, 1) := by decide +kernel
theorem dX10_beside_22 : decode cX10_beside 22 = .ok (.aload_n 0, 1) := by decide +kernel
theorem dX10_beside_23 : decode cX10_beside 23 = .ok (.iload_n 1, 1) := by decide +kernel
theorem dX10_beside_24 : decode cX10_beside 24 = .ok (.invokevirtual 121, 3) := by decide +kernel
theorem dX10_beside_27 : decode cX10_beside 27 = .ok (.istore_n 3, 1) := by decide +kernel
theorem dX10_beside_28 : decode cX10_beside 28 = .ok (.iconst (-1), 1) := by decide +kernel
theorem dX10_beside_29 : decode cX10_beside 29 = .ok (.istore 4, 2) := by decide +kernel
theorem dX10_beside_31 : decode cX10_beside 31 = .ok (.iload_n 3, 1) := by decide +kernel
theorem dX10_beside_32 : decode cX10_beside 32 = .ok (.iconst (-1), 1) := by decide +kernel
theorem dX10_beside_33 : decode cX10_beside 33 = .ok (.if_icmp .eq 75, 3) := by decide +kernel
theorem dX10_beside_36 : decode cX10_beside 36 = .ok (.iload_n 3, 1) := by decide +kernel
theorem dX10_beside_37 : decode cX10_beside 37 = .ok (.iload_n 2, 1) := by decide +kernel
theorem dX10_beside_38 : decode cX10_beside 38 = .ok (.ifCond .ne 7, 3) := by decide +kernel
theorem dX10_beside_41 : decode cX10_beside 41 = .ok (.iconst (-1), 1) := by decide +kernel
theorem dX10_beside_42 : decode cX10_beside 42 = .ok (.goto 4, 3) := by decide +kernel
theorem dX10_beside_45 : decode cX10_beside 45 = .ok (.iconst 1, 1) := by decide +kernel
theorem dX10_beside_46 : decode cX10_beside 46 = .ok (.iadd, 1) := by decide +kernel
theorem dX10_beside_47 : decode cX10_beside 47 = .ok (.istore 5, 2) := by decide +kernel
theorem dX10_beside_49 : decode cX10_beside 49 = .ok (.iload 5, 2) := by decide +kernel
theorem dX10_beside_51 : decode cX10_beside 51 = .ok (.iload_n 3, 1) := by decide +kernel
theorem dX10_beside_52 : decode cX10_beside 52 = .ok (.bipush 6, 2) := by decide +kernel
theorem dX10_beside_54 : decode cX10_beside 54 = .ok (.idiv, 1) := by decide +kernel
theorem dX10_beside_55 : decode cX10_beside 55 = .ok (.bipush 6, 2) := by decide +kernel
theorem dX10_beside_57 : decode cX10_beside 57 = .ok (.imul, 1) := by decide +kernel
theorem dX10_beside_58 : decode cX10_beside 58 = .ok (.if_icmp .lt 50, 3) := by decide +kernel
theorem dX10_beside_61 : decode cX10_beside 61 = .ok (.iload 5, 2) := by decide +kernel
theorem dX10_beside_63 : decode cX10_beside 63 = .ok (.iload_n 3, 1) := by decide +kernel
theorem dX10_beside_64 : decode cX10_beside 64 = .ok (.bipush 6, 2) := by decide +kernel
theorem dX10_beside_66 : decode cX10_beside 66 = .ok (.idiv, 1) := by decide +kernel
theorem dX10_beside_67 : decode cX10_beside 67 = .ok (.bipush 6, 2) := by decide +kernel
theorem dX10_beside_69 : decode cX10_beside 69 = .ok (.imul, 1) := by decide +kernel
theorem dX10_beside_70 : decode cX10_beside 70 = .ok (.bipush 6, 2) := by decide +kernel
theorem dX10_beside_72 : decode cX10_beside 72 = .ok (.iadd, 1) := by decide +kernel
theorem dX10_beside_73 : decode cX10_beside 73 = .ok (.if_icmp .ge 35, 3) := by decide +kernel
theorem dX10_beside_76 : decode cX10_beside 76 = .ok (.iload 4, 2) := by decide +kernel
theorem dX10_beside_78 : decode cX10_beside 78 = .ok (.iconst (-1), 1) := by decide +kernel
theorem dX10_beside_79 : decode cX10_beside 79 = .ok (.if_icmp .ne 29, 3) := by decide +kernel
theorem dX10_beside_82 : decode cX10_beside 82 = .ok (.aload_n 0, 1) := by decide +kernel
theorem dX10_beside_83 : decode cX10_beside 83 = .ok (.getfield 32, 3) := by decide +kernel
theorem dX10_beside_86 : decode cX10_beside 86 = .ok (.iload 5, 2) := by decide +kernel
theorem dX10_beside_88 : decode cX10_beside 88 = .ok (.iaload, 1) := by decide +kernel
theorem dX10_beside_89 : decode cX10_beside 89 = .ok (.istore 4, 2) := by decide +kernel
theorem dX10_beside_91 : decode cX10_beside 91 = .ok (.iload 5, 2) := by decide +kernel
theorem dX10_beside_93 : decode cX10_beside 93 = .ok (.iload_n 2, 1) := by decide +kernel
theorem dX10_beside_94 : decode cX10_beside 94 = .ok (.ifCond .ne 7, 3) := by decide +kernel
theorem dX10_beside_97 : decode cX10_beside 97 = .ok (.iconst (-1), 1) := by decide +kernel
theorem dX10_beside_98 : decode cX10_beside 98 = .ok (.goto 4, 3) := by decide +kernel
theorem dX10_beside_101 : decode cX10_beside 101 = .ok (.iconst 1, 1) := by decide +kernel
theorem dX10_beside_102 : decode cX10_beside 102 = .ok (.iadd, 1) := by decide +kernel
theorem dX10_beside_103 : decode cX10_beside 103 = .ok (.istore 5, 2) := by decide +kernel
theorem dX10_beside_105 : decode cX10_beside 105 = .ok (.goto (-56), 3) := by decide +kernel
theorem dX10_beside_108 : decode cX10_beside 108 = .ok (.iload 4, 2) := by decide +kernel
theorem dX10_beside_110 : decode cX10_beside 110 = .ok (.ireturn, 1) := by decide +kernel
set_option maxRecDepth 20000 in
theorem ggX10_answer_X10_isPupil : GoodIn wsX10_answer wsX10_isPupil := goodIn_r _ [7, 8, 9, 6, 10] rfl (by decide +kernel)
set_option maxRecDepth 20000 in
theorem gX10_answer_X10_isPupil : GoodIn wsX10_answer (va_wsS RX10 254 yX10_isPupil wsX10_isPupil) := goodIn_app (goodIn_of _ (by decide +kernel)) ggX10_answer_X10_isPupil
set_option maxRecDepth 20000 in
theorem ggX10_answer_X10_in : GoodIn wsX10_answer wsX10_in := goodIn_r _ [10] rfl (by decide +kernel)
set_option maxRecDepth 20000 in
theorem gX10_answer_X10_in : GoodIn wsX10_answer (va_wsS RX10 93 yX10_in wsX10_in) := goodIn_app (goodIn_of _ (by decide +kernel)) ggX10_answer_X10_in
theorem dX10_answer_0 : decode cX10_answer 0 = .ok (.iload_n 1, 1) := by decide +kernel
theorem dX10_answer_1 : decode cX10_answer 1 = .ok (.invokestatic 254, 3) := by decide +kernel
theorem dX10_answer_4 : decode cX10_answer 4 = .ok (.ifCond .ne 6, 3) := by decide +kernel
theorem dX10_answer_7 : decode cX10_answer 7 = .ok (.bipush (-2), 2) := by decide +kernel
theorem dX10_answer_9 : decode cX10_answer 9 = .ok (.ireturn, 1) := by decide +kernel
theorem dX10_answer_10 : decode cX10_answer 10 = .ok (.iload_n 2, 1) := by decide +kernel
theorem dX10_answer_11 : decode cX10_answer 11 = .ok (.iconst 1, 1) := by decide +kernel
theorem dX10_answer_12 : decode cX10_answer 12 = .ok (.bipush 60, 2) := by decide +kernel
theorem dX10_answer_14 : decode cX10_answer 14 = .ok (.invokestatic 93, 3) := by decide +kernel
theorem dX10_answer_17 : decode cX10_answer 17 = .ok (.ifCond .ne 6, 3) := by decide +kernel
theorem dX10_answer_20 : decode cX10_answer 20 = .ok (.bipush (-3), 2) := by decide +kernel
theorem dX10_answer_22 : decode cX10_answer 22 = .ok (.ireturn, 1) := by decide +kernel
theorem dX10_answer_23 : decode cX10_answer 23 = .ok (.aload_n 0, 1) := by decide +kernel
theorem dX10_answer_24 : decode cX10_answer 24 = .ok (.getfield 80, 3) := by decide +kernel
theorem dX10_answer_27 : decode cX10_answer 27 = .ok (.iload_n 1, 1) := by decide +kernel
theorem dX10_answer_28 : decode cX10_answer 28 = .ok (.iaload, 1) := by decide +kernel
theorem dX10_answer_29 : decode cX10_answer 29 = .ok (.bipush 12, 2) := by decide +kernel
theorem dX10_answer_31 : decode cX10_answer 31 = .ok (.if_icmp .ne 6, 3) := by decide +kernel
theorem dX10_answer_34 : decode cX10_answer 34 = .ok (.bipush (-5), 2) := by decide +kernel
theorem dX10_answer_36 : decode cX10_answer 36 = .ok (.ireturn, 1) := by decide +kernel
theorem dX10_answer_37 : decode cX10_answer 37 = .ok (.aload_n 0, 1) := by decide +kernel
theorem dX10_answer_38 : decode cX10_answer 38 = .ok (.getfield 83, 3) := by decide +kernel
theorem dX10_answer_41 : decode cX10_answer 41 = .ok (.bipush 12, 2) := by decide +kernel
theorem dX10_answer_43 : decode cX10_answer 43 = .ok (.iload_n 1, 1) := by decide +kernel
theorem dX10_answer_44 : decode cX10_answer 44 = .ok (.imul, 1) := by decide +kernel
theorem dX10_answer_45 : decode cX10_answer 45 = .ok (.aload_n 0, 1) := by decide +kernel
theorem dX10_answer_46 : decode cX10_answer 46 = .ok (.getfield 80, 3) := by decide +kernel
theorem dX10_answer_49 : decode cX10_answer 49 = .ok (.iload_n 1, 1) := by decide +kernel
theorem dX10_answer_50 : decode cX10_answer 50 = .ok (.iaload, 1) := by decide +kernel
theorem dX10_answer_51 : decode cX10_answer 51 = .ok (.iadd, 1) := by decide +kernel
theorem dX10_answer_52 : decode cX10_answer 52 = .ok (.iload_n 2, 1) := by decide +kernel
theorem dX10_answer_53 : decode cX10_answer 53 = .ok (.iastore, 1) := by decide +kernel
theorem dX10_answer_54 : decode cX10_answer 54 = .ok (.aload_n 0, 1) := by decide +kernel
theorem dX10_answer_55 : decode cX10_answer 55 = .ok (.getfield 86, 3) := by decide +kernel
theorem dX10_answer_58 : decode cX10_answer 58 = .ok (.bipush 12, 2) := by decide +kernel
theorem dX10_answer_60 : decode cX10_answer 60 = .ok (.iload_n 1, 1) := by decide +kernel
theorem dX10_answer_61 : decode cX10_answer 61 = .ok (.imul, 1) := by decide +kernel
theorem dX10_answer_62 : decode cX10_answer 62 = .ok (.aload_n 0, 1) := by decide +kernel
theorem dX10_answer_63 : decode cX10_answer 63 = .ok (.getfield 80, 3) := by decide +kernel
theorem dX10_answer_66 : decode cX10_answer 66 = .ok (.iload_n 1, 1) := by decide +kernel
theorem dX10_answer_67 : decode cX10_answer 67 = .ok (.iaload, 1) := by decide +kernel
theorem dX10_answer_68 : decode cX10_answer 68 = .ok (.iadd, 1) := by decide +kernel
theorem dX10_answer_69 : decode cX10_answer 69 = .ok (.iload_n 3, 1) := by decide +kernel
theorem dX10_answer_70 : decode cX10_answer 70 = .ok (.bastore, 1) := by decide +kernel
theorem dX10_answer_71 : decode cX10_answer 71 = .ok (.aload_n 0, 1) := by decide +kernel
theorem dX10_answer_72 : decode cX10_answer 72 = .ok (.getfield 80, 3) := by decide +kernel
theorem dX10_answer_75 : decode cX10_answer 75 = .ok (.iload_n 1, 1) := by decide +kernel
theorem dX10_answer_76 : decode cX10_answer 76 = .ok (.dup2, 1) := by decide +kernel
theorem dX10_answer_77 : decode cX10_answer 77 = .ok (.iaload, 1) := by decide +kernel
theorem dX10_answer_78 : decode cX10_answer 78 = .ok (.iconst 1, 1) := by decide +kernel
theorem dX10_answer_79 : decode cX10_answer 79 = .ok (.iadd, 1) := by decide +kernel
theorem dX10_answer_80 : decode cX10_answer 80 = .ok (.iastore, 1) := by decide +kernel
theorem dX10_answer_81 : decode cX10_answer 81 = .ok (.aload_n 0, 1) := by decide +kernel
theorem dX10_answer_82 : decode cX10_answer 82 = .ok (.getfield 80, 3) := by decide +kernel
theorem dX10_answer_85 : decode cX10_answer 85 = .ok (.iload_n 1, 1) := by decide +kernel
theorem dX10_answer_86 : decode cX10_answer 86 = .ok (.iaload, 1) := by decide +kernel
theorem dX10_answer_87 : decode cX10_answer 87 = .ok (.ireturn, 1) := by decide +kernel
theorem dX10_isRight_0 : decode cX10_isRight 0 = .ok (.bipush 100, 2) := by decide +kernel
theorem dX10_isRight_2 : decode cX10_isRight 2 = .ok (.iload_n 0, 1) := by decide +kernel
theorem dX10_isRight_3 : decode cX10_isRight 3 = .ok (.bipush 9, 2) := by decide +kernel
theorem dX10_isRight_5 : decode cX10_isRight 5 = .ok (.idiv, 1) := by decide +kernel
theorem dX10_isRight_6 : decode cX10_isRight 6 = .ok (.iconst 1, 1) := by decide +kernel
theorem dX10_isRight_7 : decode cX10_isRight 7 = .ok (.iadd, 1) := by decide +kernel
theorem dX10_isRight_8 : decode cX10_isRight 8 = .ok (.iload_n 1, 1) := by decide +kernel
theorem dX10_isRight_9 : decode cX10_isRight 9 = .ok (.imul, 1) := by decide +kernel
theorem dX10_isRight_10 : decode cX10_isRight 10 = .ok (.isub, 1) := by decide +kernel
theorem dX10_isRight_11 : decode cX10_isRight 11 = .ok (.bipush 10, 2) := by decide +kernel
theorem dX10_isRight_13 : decode cX10_isRight 13 = .ok (.iload_n 0, 1) := by decide +kernel
theorem dX10_isRight_14 : decode cX10_isRight 14 = .ok (.bipush 9, 2) := by decide +kernel
theorem dX10_isRight_16 : decode cX10_isRight 16 = .ok (.irem, 1) := by decide +kernel
theorem dX10_isRight_17 : decode cX10_isRight 17 = .ok (.iconst 1, 1) := by decide +kernel
theorem dX10_isRight_18 : decode cX10_isRight 18 = .ok (.iadd, 1) := by decide +kernel
theorem dX10_isRight_19 : decode cX10_isRight 19 = .ok (.imul, 1) := by decide +kernel
theorem dX10_isRight_20 : decode cX10_isRight 20 = .ok (.if_icmp .lt 7, 3) := by decide +kernel
theorem dX10_isRight_23 : decode cX10_isRight 23 = .ok (.iconst 1, 1) := by decide +kernel
theorem dX10_isRight_24 : decode cX10_isRight 24 = .ok (.goto 4, 3) := by decide +kernel
theorem dX10_isRight_27 : decode cX10_isRight 27 = .ok (.iconst 0, 1) := by decide +kernel
theorem dX10_isRight_28 : decode cX10_isRight 28 = .ok (.ireturn, 1) := by decide +kernel
set_option maxRecDepth 20000 in
theorem ggX10_agrees_X10_isRight : GoodIn wsX10_agrees wsX10_isRight := goodIn_r _ [7] rfl (by decide +kernel)
set_option maxRecDepth 20000 in
theorem gX10_agrees_X10_isRight : GoodIn wsX10_agrees (va_wsS RX10 257 yX10_isRight wsX10_isRight) := goodIn_app (goodIn_of _ (by decide +kernel)) ggX10_agrees_X10_isRight
theorem dX10_agrees_0 : decode cX10_agrees 0 = .ok (.iconst 0, 1) := by decide +kernel
theorem dX10_agrees_1 : decode cX10_agrees 1 = .ok (.istore_n 3, 1) := by decide +kernel
theorem dX10_agrees_2 : decode cX10_agrees 2 = .ok (.iconst 0, 1) := by decide +kernel
theorem dX10_agrees_3 : decode cX10_agrees 3 = .ok (.istore 4, 2) := by decide +kernel
theorem dX10_agrees_5 : decode cX10_agrees 5 = .ok (.iload 4, 2) := by decide +kernel
theorem dX10_agrees_7 : decode cX10_agrees 7 = .ok (.aload_n 0, 1) := by decide +kernel
theorem dX10_agrees_8 : decode cX10_agrees 8 = .ok (.getfield 80, 3) := by decide +kernel
theorem dX10_agrees_11 : decode cX10_agrees 11 = .ok (.iload_n 1, 1) := by decide +kernel
theorem dX10_agrees_12 : decode cX10_agrees 12 = .ok (.iaload, 1) := by decide +kernel
theorem dX10_agrees_13 : decode cX10_agrees 13 = .ok (.if_icmp .ge 48, 3) := by decide +kernel
theorem dX10_agrees_16 : decode cX10_agrees 16 = .ok (.iload_n 3, 1) := by decide +kernel
theorem dX10_agrees_17 : decode cX10_agrees 17 = .ok (.iload_n 2, 1) := by decide +kernel
theorem dX10_agrees_18 : decode cX10_agrees 18 = .ok (.aload_n 0, 1) := by decide +kernel
theorem dX10_agrees_19 : decode cX10_agrees 19 = .ok (.getfield 83, 3) := by decide +kernel
theorem dX10_agrees_22 : decode cX10_agrees 22 = .ok (.bipush 12, 2) := by decide +kernel
theorem dX10_agrees_24 : decode cX10_agrees 24 = .ok (.iload_n 1, 1) := by decide +kernel
theorem dX10_agrees_25 : decode cX10_agrees 25 = .ok (.imul, 1) := by decide +kernel
theorem dX10_agrees_26 : decode cX10_agrees 26 = .ok (.iload 4, 2) := by decide +kernel
theorem dX10_agrees_28 : decode cX10_agrees 28 = .ok (.iadd, 1) := by decide +kernel
theorem dX10_agrees_29 : decode cX10_agrees 29 = .ok (.iaload, 1) := by decide +kernel
theorem dX10_agrees_30 : decode cX10_agrees 30 = .ok (.invokestatic 257, 3) := by decide +kernel
theorem dX10_agrees_33 : decode cX10_agrees 33 = .ok (.aload_n 0, 1) := by decide +kernel
theorem dX10_agrees_34 : decode cX10_agrees 34 = .ok (.getfield 86, 3) := by decide +kernel
theorem dX10_agrees_37 : decode cX10_agrees 37 = .ok (.bipush 12, 2) := by decide +kernel
theorem dX10_agrees_39 : decode cX10_agrees 39 = .ok (.iload_n 1, 1) := by decide +kernel
theorem dX10_agrees_40 : decode cX10_agrees 40 = .ok (.imul, 1) := by decide +kernel
theorem dX10_agrees_41 : decode cX10_agrees 41 = .ok (.iload 4, 2) := by decide +kernel
theorem dX10_agrees_43 : decode cX10_agrees 43 = .ok (.iadd, 1) := by decide +kernel
theorem dX10_agrees_44 : decode cX10_agrees 44 = .ok (.baload, 1) := by decide +kernel
theorem dX10_agrees_45 : decode cX10_agrees 45 = .ok (.if_icmp .ne 7, 3) := by decide +kernel
theorem dX10_agrees_48 : decode cX10_agrees 48 = .ok (.iconst 1, 1) := by decide +kernel
theorem dX10_agrees_49 : decode cX10_agrees 49 = .ok (.goto 4, 3) := by decide +kernel
theorem dX10_agrees_52 : decode cX10_agrees 52 = .ok (.iconst 0, 1) := by decide +kernel
theorem dX10_agrees_53 : decode cX10_agrees 53 = .ok (.iadd, 1) := by decide +kernel
theorem dX10_agrees_54 : decode cX10_agrees 54 = .ok (.istore_n 3, 1) := by decide +kernel
theorem dX10_agrees_55 : decode cX10_agrees 55 = .ok (.iinc 4 1, 3) := by decide +kernel
theorem dX10_agrees_58 : decode cX10_agrees 58 = .ok (.goto (-53), 3) := by decide +kernel
theorem dX10_agrees_61 : decode cX10_agrees 61 = .ok (.iload_n 3, 1) := by decide +kernel
theorem dX10_agrees_62 : decode cX10_agrees 62 = .ok (.ireturn, 1) := by decide +kernel
set_option maxRecDepth 20000 in
theorem ggX10_partsMost_X10_agrees : GoodIn wsX10_partsMost wsX10_agrees := goodIn_r _ [6, 1, 7, 8, 9, 10, 5, 11, 12, 13, 14, 15, 16, 17, 18, 19, 20, 21, 22, 23, 24, 25, 26, 27, 28, 29, 30, 31, 32, 33, 34, 35, 36, 37, 38, 39, 40, 41, 42, 43, 44, 45, 46, 47, 48, 49, 50] rfl (by decide +kernel)
set_option maxRecDepth 20000 in
theorem gX10_partsMost_X10_agrees : GoodIn wsX10_partsMost (wsV RX10 260 RX10 yX10_agrees wsX10_agrees) := goodIn_app (goodIn_of _ (by decide +kernel)) ggX10_partsMost_X10_agrees
set_option maxRecDepth 20000 in
theorem ggX10_partsMost_X10_isRight : GoodIn wsX10_partsMost wsX10_isRight := goodIn_r _ [11] rfl (by decide +kernel)
set_option maxRecDepth 20000 in
theorem gX10_partsMost_X10_isRight : GoodIn wsX10_partsMost (va_wsS RX10 257 yX10_isRight wsX10_isRight) := goodIn_app (goodIn_of _ (by decide +kernel)) ggX10_partsMost_X10_isRight
theorem dX10_partsMost_0 : decode cX10_partsMost 0 = .ok (.iconst (-1), 1) := by decide +kernel
theorem dX10_partsMost_1 : decode cX10_partsMost 1 = .ok (.istore_n 2, 1) := by decide +kernel
theorem dX10_partsMost_2 : decode cX10_partsMost 2 = .ok (.sipush 1000, 3) := by decide +kernel
theorem dX10_partsMost_5 : decode cX10_partsMost 5 = .ok (.istore_n 3, 1) := by decide +kernel
theorem dX10_partsMost_6 : decode cX10_partsMost 6 = .ok (.iconst 0, 1) := by decide +kernel
theorem dX10_partsMost_7 : decode cX10_partsMost 7 = .ok (.istore 4, 2) := by decide +kernel
theorem dX10_partsMost_9 : decode cX10_partsMost 9 = .ok (.iconst 1, 1) := by decide +kernel
theorem dX10_partsMost_10 : decode cX10_partsMost 10 = .ok (.istore 5, 2) := by decide +kernel
theorem dX10_partsMost_12 : decode cX10_partsMost 12 = .ok (.iload 5, 2) := by decide +kernel
theorem dX10_partsMost_14 : decode cX10_partsMost 14 = .ok (.bipush 61, 2) := by decide +kernel
theorem dX10_partsMost_16 : decode cX10_partsMost 16 = .ok (.if_icmp .ge 136, 3) := by decide +kernel
theorem dX10_partsMost_19 : decode cX10_partsMost 19 = .ok (.iconst 0, 1) := by decide +kernel
theorem dX10_partsMost_20 : decode cX10_partsMost 20 = .ok (.istore 6, 2) := by decide +kernel
