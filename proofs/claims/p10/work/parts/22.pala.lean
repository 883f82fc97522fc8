
set_option maxRecDepth 20000 in
theorem ggX9_init_X8_init : GoodIn wsX9_init wsX8_init := goodIn_r _ [45, 46, 2, 3, 36, 47, 48, 49, 50, 51, 125, 126] rfl (by decide +kernel)
set_option maxRecDepth 20000 in
theorem gX9_init_X8_init : GoodIn wsX9_init (wsX8_init) := ggX9_init_X8_init
set_option maxRecDepth 20000 in
theorem ggX9_init_X2_init : GoodIn wsX9_init wsX2_init := goodIn_r _ [53, 54, 2, 3, 36, 55, 138] rfl (by decide +kernel)
set_option maxRecDepth 20000 in
theorem gX9_init_X2_init_n18 : GoodIn wsX9_init (wsX2_init) := ggX9_init_X2_init
set_option maxRecDepth 20000 in
theorem ggX9_init_X1_init : GoodIn wsX9_init wsX1_init := goodIn_r _ [58, 59, 2, 3, 36, 60, 61, 62, 63, 64, 65, 66, 67, 68, 69, 70, 71, 72, 49, 50, 51, 139, 140, 141, 142, 143, 144, 145, 146, 147, 148, 149, 150, 151] rfl (by decide +kernel)
set_option maxRecDepth 20000 in
theorem gX9_init_X1_init : GoodIn wsX9_init (wsX1_init) := ggX9_init_X1_init
set_option maxRecDepth 20000 in
theorem ggX9_init_X7_init : GoodIn wsX9_init wsX7_init := goodIn_r _ [74, 75, 2, 3, 36, 76, 152, 153, 154, 155] rfl (by decide +kernel)
set_option maxRecDepth 20000 in
theorem gX9_init_X7_init_n34 : GoodIn wsX9_init (wsX7_init) := ggX9_init_X7_init
set_option maxRecDepth 20000 in
theorem ggX9_init_X3_init : GoodIn wsX9_init wsX3_init := goodIn_r _ [79, 80, 2, 3, 36, 81, 82, 83, 84, 85, 86, 87, 88, 156, 157, 158, 159, 160, 161, 162, 163, 164] rfl (by decide +kernel)
set_option maxRecDepth 20000 in
theorem gX9_init_X3_init : GoodIn wsX9_init (wsX3_init) := ggX9_init_X3_init
set_option maxRecDepth 20000 in
theorem ggX9_init_X6_init : GoodIn wsX9_init wsX6_init := goodIn_r _ [91, 92, 2, 3, 36, 93, 94, 95, 96, 97, 165, 166, 167, 168, 169] rfl (by decide +kernel)
set_option maxRecDepth 20000 in
theorem gX9_init_X6_init : GoodIn wsX9_init (wsX6_init) := ggX9_init_X6_init
set_option maxRecDepth 20000 in
theorem ggX9_init_X0_init : GoodIn wsX9_init wsX0_init := goodIn_r _ [100, 101, 2, 3, 36, 102, 103, 104, 105, 106, 170, 171, 172, 173, 174, 175] rfl (by decide +kernel)
set_option maxRecDepth 20000 in
theorem gX9_init_X0_init : GoodIn wsX9_init (wsX0_init) := ggX9_init_X0_init
set_option maxRecDepth 20000 in
theorem ggX9_init_X4_init : GoodIn wsX9_init wsX4_init := goodIn_r _ [108, 109, 2, 3, 36, 110, 176, 177] rfl (by decide +kernel)
set_option maxRecDepth 20000 in
theorem gX9_init_X4_init_n68 : GoodIn wsX9_init (wsX4_init) := ggX9_init_X4_init
set_option maxRecDepth 20000 in
theorem ggX9_init_X5_init : GoodIn wsX9_init wsX5_init := goodIn_r _ [113, 114, 2, 3, 36, 115, 116, 117, 118, 119, 40, 120, 121, 122, 123, 124, 49, 50, 51, 178, 179, 180, 181, 182] rfl (by decide +kernel)
set_option maxRecDepth 20000 in
theorem gX9_init_X5_init : GoodIn wsX9_init (wsX5_init) := ggX9_init_X5_init
theorem dX9_init_0 : decode cX9_init 0 = .ok (.aload_n 0, 1) := by decide +kernel
theorem dX9_init_1 : decode cX9_init 1 = .ok (.invokespecial 3, 3) := by decide +kernel
theorem dX9_init_4 : decode cX9_init 4 = .ok (.aload_n 0, 1) := by decide +kernel
theorem dX9_init_5 : decode cX9_init 5 = .ok (.new 9, 3) := by decide +kernel
theorem dX9_init_8 : decode cX9_init 8 = .ok (.dup, 1) := by decide +kernel
theorem dX9_init_9 : decode cX9_init 9 = .ok (.invokespecial 11, 3) := by decide +kernel
theorem dX9_init_12 : decode cX9_init 12 = .ok (.putfield 12, 3) := by decide +kernel
theorem dX9_init_15 : decode cX9_init 15 = .ok (.aload_n 0, 1) := by decide +kernel
theorem dX9_init_16 : decode cX9_init 16 = .ok (.new 16, 3) := by decide +kernel
theorem dX9_init_19 : decode cX9_init 19 = .ok (.dup, 1) := by decide +kernel
theorem dX9_init_20 : decode cX9_init 20 = .ok (.invokespecial 18, 3) := by decide +kernel
theorem dX9_init_23 : decode cX9_init 23 = .ok (.putfield 19, 3) := by decide +kernel
theorem dX9_init_26 : decode cX9_init 26 = .ok (.aload_n 0, 1) := by decide +kernel
theorem dX9_init_27 : decode cX9_init 27 = .ok (.new 23, 3) := by decide +kernel
theorem dX9_init_30 : decode cX9_init 30 = .ok (.dup, 1) := by decide +kernel
theorem dX9_init_31 : decode cX9_init 31 = .ok (.aload_n 0, 1) := by decide +kernel
theorem dX9_init_32 : decode cX9_init 32 = .ok (.getfield 19, 3) := by decide +kernel
theorem dX9_init_35 : decode cX9_init 35 = .ok (.invokespecial 25, 3) := by decide +kernel
theorem dX9_init_38 : decode cX9_init 38 = .ok (.putfield 28, 3) := by decide +kernel
theorem dX9_init_41 : decode cX9_init 41 = .ok (.aload_n 0, 1) := by decide +kernel
theorem dX9_init_42 : decode cX9_init 42 = .ok (.new 32, 3) := by decide +kernel
theorem dX9_init_45 : decode cX9_init 45 = .ok (.dup, 1) := by decide +kernel
theorem dX9_init_46 : decode cX9_init 46 = .ok (.invokespecial 34, 3) := by decide +kernel
theorem dX9_init_49 : decode cX9_init 49 = .ok (.putfield 35, 3) := by decide +kernel
theorem dX9_init_52 : decode cX9_init 52 = .ok (.aload_n 0, 1) := by decide +kernel
theorem dX9_init_53 : decode cX9_init 53 = .ok (.new 39, 3) := by decide +kernel
theorem dX9_init_56 : decode cX9_init 56 = .ok (.dup, 1) := by decide +kernel
theorem dX9_init_57 : decode cX9_init 57 = .ok (.aload_n 0, 1) := by decide +kernel
theorem dX9_init_58 : decode cX9_init 58 = .ok (.getfield 28, 3) := by decide +kernel
theorem dX9_init_61 : decode cX9_init 61 = .ok (.aload_n 0, 1) := by decide +kernel
theorem dX9_init_62 : decode cX9_init 62 = .ok (.getfield 12, 3) := by decide +kernel
theorem dX9_init_65 : decode cX9_init 65 = .ok (.invokespecial 41, 3) := by decide +kernel
theorem dX9_init_68 : decode cX9_init 68 = .ok (.putfield 44, 3) := by decide +kernel
theorem dX9_init_71 : decode cX9_init 71 = .ok (.aload_n 0, 1) := by decide +kernel
theorem dX9_init_72 : decode cX9_init 72 = .ok (.new 48, 3) := by decide +kernel
theorem dX9_init_75 : decode cX9_init 75 = .ok (.dup, 1) := by decide +kernel
theorem dX9_init_76 : decode cX9_init 76 = .ok (.aload_n 0, 1) := by decide +kernel
theorem dX9_init_77 : decode cX9_init 77 = .ok (.getfield 19, 3) := by decide +kernel
theorem dX9_init_80 : decode cX9_init 80 = .ok (.invokespecial 50, 3) := by decide +kernel
theorem dX9_init_83 : decode cX9_init 83 = .ok (.putfield 51, 3) := by decide +kernel
theorem dX9_init_86 : decode cX9_init 86 = .ok (.aload_n 0, 1) := by decide +kernel
theorem dX9_init_87 : decode cX9_init 87 = .ok (.new 55, 3) := by decide +kernel
theorem dX9_init_90 : decode cX9_init 90 = .ok (.dup, 1) := by decide +kernel
theorem dX9_init_91 : decode cX9_init 91 = .ok (.aload_n 0, 1) := by decide +kernel
theorem dX9_init_92 : decode cX9_init 92 = .ok (.getfield 19, 3) := by decide +kernel
theorem dX9_init_95 : decode cX9_init 95 = .ok (.invokespecial 57, 3) := by decide +kernel
theorem dX9_init_98 : decode cX9_init 98 = .ok (.putfield 58, 3) := by decide +kernel
theorem dX9_init_101 : decode cX9_init 101 = .ok (.aload_n 0, 1) := by decide +kernel
theorem dX9_init_102 : decode cX9_init 102 = .ok (.iconst 4, 1) := by decide +kernel
theorem dX9_init_103 : decode cX9_init 103 = .ok (.anewarray 62, 3) := by decide +kernel
theorem dX9_init_106 : decode cX9_init 106 = .ok (.putfield 64, 3) := by decide +kernel
theorem dX9_init_109 : decode cX9_init 109 = .ok (.iconst 0, 1) := by decide +kernel
theorem dX9_init_110 : decode cX9_init 110 = .ok (.istore_n 1, 1) := by decide +kernel
theorem dX9_init_111 : decode cX9_init 111 = .ok (.iload_n 1, 1) := by decide +kernel
theorem dX9_init_112 : decode cX9_init 112 = .ok (.iconst 4, 1) := by decide +kernel
theorem dX9_init_113 : decode cX9_init 113 = .ok (.if_icmp .ge 22, 3) := by decide +kernel
theorem dX9_init_116 : decode cX9_init 116 = .ok (.aload_n 0, 1) := by decide +kernel
theorem dX9_init_117 : decode cX9_init 117 = .ok (.getfield 64, 3) := by decide +kernel
theorem dX9_init_120 : decode cX9_init 120 = .ok (.iload_n 1, 1) := by decide +kernel
theorem dX9_init_121 : decode cX9_init 121 = .ok (.new 62, 3) := by decide +kernel
theorem dX9_init_124 : decode cX9_init 124 = .ok (.dup, 1) := by decide +kernel
theorem dX9_init_125 : decode cX9_init 125 = .ok (.invokespecial 68, 3) := by decide +kernel
theorem dX9_init_128 : decode cX9_init 128 = .ok (.aastore, 1) := by decide +kernel
theorem dX9_init_129 : decode cX9_init 129 = .ok (.iinc 1 1, 3) := by decide +kernel
theorem dX9_init_132 : decode cX9_init 132 = .ok (.goto (-21), 3) := by decide +kernel
theorem dX9_init_135 : decode cX9_init 135 = .ok (.aload_n 0, 1) := by decide +kernel
theorem dX9_init_136 : decode cX9_init 136 = .ok (.bipush 8, 2) := by decide +kernel
theorem dX9_init_138 : decode cX9_init 138 = .ok (.newarray .int, 2) := by decide +kernel
theorem dX9_init_140 : decode cX9_init 140 = .ok (.putfield 69, 3) := by decide +kernel
theorem dX9_init_143 : decode cX9_init 143 = .ok (.aload_n 0, 1) := by decide +kernel
theorem dX9_init_144 : decode cX9_init 144 = .ok (.new 73, 3) := by decide +kernel
theorem dX9_init_147 : decode cX9_init 147 = .ok (.dup, 1) := by decide +kernel
theorem dX9_init_148 : decode cX9_init 148 = .ok (.invokespecial 75, 3) := by decide +kernel
theorem dX9_init_151 : decode cX9_init 151 = .ok (.putfield 76, 3) := by decide +kernel
theorem dX9_init_154 : decode cX9_init 154 = .ok (.aload_n 0, 1) := by decide +kernel
theorem dX9_init_155 : decode cX9_init 155 = .ok (.new 73, 3) := by decide +kernel
theorem dX9_init_158 : decode cX9_init 158 = .ok (.dup, 1) := by decide +kernel
theorem dX9_init_159 : decode cX9_init 159 = .ok (.invokespecial 75, 3) := by decide +kernel
theorem dX9_init_162 : decode cX9_init 162 = .ok (.putfield 80, 3) := by decide +kernel
theorem dX9_init_165 : decode cX9_init 165 = .ok (.return_, 1) := by decide +kernel
set_option maxRecDepth 20000 in
theorem ggX9_door_X9_isRoom : GoodIn wsX9_door wsX9_isRoom := goodIn_r _ [5, 6, 7, 4, 8] rfl (by decide +kernel)
set_option maxRecDepth 20000 in
theorem gX9_door_X9_isRoom : GoodIn wsX9_door (va_wsS RX9 83 yX9_isRoom wsX9_isRoom) := goodIn_app (goodIn_of _ (by decide +kernel)) ggX9_door_X9_isRoom
set_option maxRecDepth 20000 in
theorem ggX9_door_X8_joined : GoodIn wsX9_door wsX8_joined := goodIn_r _ [13, 14, 15, 16, 12, 17, 18, 39, 40] rfl (by decide +kernel)
set_option maxRecDepth 20000 in
theorem gX9_door_X8_joined : GoodIn wsX9_door (wsV RX9 87 RX8 yX8_joined wsX8_joined) := goodIn_app (goodIn_of _ (by decide +kernel)) ggX9_door_X8_joined
set_option maxRecDepth 20000 in
theorem ggX9_door_X8_join : GoodIn wsX9_door wsX8_join := goodIn_r _ [22, 23, 14, 15, 16, 12, 17, 18, 24, 25, 26, 27, 39, 40] rfl (by decide +kernel)
set_option maxRecDepth 20000 in
theorem gX9_door_X8_join : GoodIn wsX9_door (wsV RX9 95 RX8 yX8_join wsX8_join) := goodIn_app (goodIn_of _ (by decide +kernel)) ggX9_door_X8_join
theorem dX9_door_0 : decode cX9_door 0 = .ok (.iload_n 1, 1) := by decide +kernel
theorem dX9_door_1 : decode cX9_door 1 = .ok (.invokestatic 83, 3) := by decide +kernel
theorem dX9_door_4 : decode cX9_door 4 = .ok (.ifCond .eq 15, 3) := by decide +kernel
theorem dX9_door_7 : decode cX9_door 7 = .ok (.iload_n 2, 1) := by decide +kernel
theorem dX9_door_8 : decode cX9_door 8 = .ok (.invokestatic 83, 3) := by decide +kernel
theorem dX9_door_11 : decode cX9_door 11 = .ok (.ifCond .eq 8, 3) := by decide +kernel
theorem dX9_door_14 : decode cX9_door 14 = .ok (.iload_n 1, 1) := by decide +kernel
theorem dX9_door_15 : decode cX9_door 15 = .ok (.iload_n 2, 1) := by decide +kernel
theorem dX9_door_16 : decode cX9_door 16 = .ok (.if_icmp .ne 6, 3) := by decide +kernel
theorem dX9_door_19 : decode cX9_door 19 = .ok (.bipush (-2), 2) := by decide +kernel
theorem dX9_door_21 : decode cX9_door 21 = .ok (.ireturn, 1) := by decide +kernel
theorem dX9_door_22 : decode cX9_door 22 = .ok (.aload_n 0, 1) := by decide +kernel
theorem dX9_door_23 : decode cX9_door 23 = .ok (.getfield 12, 3) := by decide +kernel
theorem dX9_door_26 : decode cX9_door 26 = .ok (.iload_n 1, 1) := by decide +kernel
theorem dX9_door_27 : decode cX9_door 27 = .ok (.iload_n 2, 1) := by decide +kernel
theorem dX9_door_28 : decode cX9_door 28 = .ok (.invokevirtual 87, 3) := by decide +kernel
theorem dX9_door_31 : decode cX9_door 31 = .ok (.ifCond .eq 6, 3) := by decide +kernel
theorem dX9_door_34 : decode cX9_door 34 = .ok (.bipush (-4), 2) := by decide +kernel
theorem dX9_door_36 : decode cX9_door 36 = .ok (.ireturn, 1) := by decide +kernel
theorem dX9_door_37 : decode cX9_door 37 = .ok (.aload_n 0, 1) := by decide +kernel
theorem dX9_door_38 : decode cX9_door 38 = .ok (.getfield 12, 3) := by decide +kernel
theorem dX9_door_41 : decode cX9_door 41 = .ok (.getfield 91, 3) := by decide +kernel
theorem dX9_door_44 : decode cX9_door 44 = .ok (.bipush 14, 2) := by decide +kernel
theorem dX9_door_46 : decode cX9_door 46 = .ok (.if_icmp .lt 6, 3) := by decide +kernel
theorem dX9_door_49 : decode cX9_door 49 = .ok (.bipush (-5), 2) := by decide +kernel
theorem dX9_door_51 : decode cX9_door 51 = .ok (.ireturn, 1) := by decide +kernel
theorem dX9_door_52 : decode cX9_door 52 = .ok (.aload_n 0, 1) := by decide +kernel
theorem dX9_door_53 : decode cX9_door 53 = .ok (.getfield 12, 3) := by decide +kernel
theorem dX9_door_56 : decode cX9_door 56 = .ok (.iload_n 1, 1) := by decide +kernel
theorem dX9_door_57 : decode cX9_door 57 = .ok (.iload_n 2, 1) := by decide +kernel
theorem dX9_door_58 : decode cX9_door 58 = .ok (.invokevirtual 95, 3) := by decide +kernel
theorem dX9_door_61 : decode cX9_door 61 = .ok (.aload_n 0, 1) := by decide +kernel
theorem dX9_door_62 : decode cX9_door 62 = .ok (.getfield 12, 3) := by decide +kernel
theorem dX9_door_65 : decode cX9_door 65 = .ok (.getfield 91, 3) := by decide +kernel
theorem dX9_door_68 : decode cX9_door 68 = .ok (.ireturn, 1) := by decide +kernel
set_option maxRecDepth 20000 in
theorem ggX9_away_X9_isRoom : GoodIn wsX9_away wsX9_isRoom := goodIn_r _ [5, 6, 7, 4, 8] rfl (by decide +kernel)
set_option maxRecDepth 20000 in
theorem gX9_away_X9_isRoom : GoodIn wsX9_away (va_wsS RX9 83 yX9_isRoom wsX9_isRoom) := goodIn_app (goodIn_of _ (by decide +kernel)) ggX9_away_X9_isRoom
set_option maxRecDepth 20000 in
theorem ggX9_away_X8_between : GoodIn wsX9_away wsX8_between := goodIn_r _ [13, 14, 26, 27] rfl (by decide +kernel)
set_option maxRecDepth 20000 in
theorem gX9_away_X8_between : GoodIn wsX9_away (wsV RX9 99 RX8 yX8_between wsX8_between) := goodIn_app (goodIn_of _ (by decide +kernel)) ggX9_away_X8_between
theorem dX9_away_0 : decode cX9_away 0 = .ok (.iload_n 1, 1) := by decide +kernel
theorem dX9_away_1 : decode cX9_away 1 = .ok (.invokestatic 83, 3) := by decide +kernel
theorem dX9_away_4 : decode cX9_away 4 = .ok (.ifCond .eq 10, 3) := by decide +kernel
theorem dX9_away_7 : decode cX9_away 7 = .ok (.iload_n 2, 1) := by decide +kernel
theorem dX9_away_8 : decode cX9_away 8 = .ok (.invokestatic 83, 3) := by decide +kernel
theorem dX9_away_11 : decode cX9_away 11 = .ok (.ifCond .ne 6, 3) := by decide +kernel
theorem dX9_away_14 : decode cX9_away 14 = .ok (.bipush (-2), 2) := by decide +kernel
theorem dX9_away_16 : decode cX9_away 16 = .ok (.ireturn, 1) := by decide +kernel
theorem dX9_away_17 : decode cX9_away 17 = .ok (.aload_n 0, 1) := by decide +kernel
theorem dX9_away_18 : decode cX9_away 18 = .ok (.getfield 12, 3) := by decide +kernel
theorem dX9_away_21 : decode cX9_away 21 = .ok (.iload_n 1, 1) := by decide +kernel
theorem dX9_away_22 : decode cX9_away 22 = .ok (.iload_n 2, 1) := by decide +kernel
theorem dX9_away_23 : decode cX9_away 23 = .ok (.invokevirtual 99, 3) := by decide +kernel
theorem dX9_away_26 : decode cX9_away 26 = .ok (.ireturn, 1) := by decide +kernel
set_option maxRecDepth 20000 in
theorem ggX9_marks_X9_isThing : GoodIn wsX9_marks wsX9_isThing := goodIn_r _ [5, 6, 7, 4, 8] rfl (by decide +kernel)
set_option maxRecDepth 20000 in
theorem gX9_marks_X9_isThing : GoodIn wsX9_marks (va_wsS RX9 103 yX9_isThing wsX9_isThing) := goodIn_app (goodIn_of _ (by decide +kernel)) ggX9_marks_X9_isThing
set_option maxRecDepth 20000 in
theorem ggX9_marks_X9_within : GoodIn wsX9_marks wsX9_within := goodIn_r _ [8] rfl (by decide +kernel)
set_option maxRecDepth 20000 in
theorem gX9_marks_X9_within : GoodIn wsX9_marks (va_wsS RX9 106 yX9_within wsX9_within) := goodIn_app (goodIn_of _ (by decide +kernel)) ggX9_marks_X9_within
theorem dX9_marks_0 : decode cX9_marks 0 = .ok (.iload_n 1, 1) := by decide +kernel
theorem dX9_marks_1 : decode cX9_marks 1 = .ok (.invokestatic 103, 3) := by decide +kernel
theorem dX9_marks_4 : decode cX9_marks 4 = .ok (.ifCond .ne 6, 3) := by decide +kernel
theorem dX9_marks_7 : decode cX9_marks 7 = .ok (.bipush (-2), 2) := by decide +kernel
theorem dX9_marks_9 : decode cX9_marks 9 = .ok (.ireturn, 1) := by decide +kernel
theorem dX9_marks_10 : decode cX9_marks 10 = .ok (.iload_n 2, 1) := by decide +kernel
theorem dX9_marks_11 : decode cX9_marks 11 = .ok (.iconst 0, 1) := by decide +kernel
theorem dX9_marks_12 : decode cX9_marks 12 = .ok (.sipush 255, 3) := by decide +kernel
theorem dX9_marks_15 : decode cX9_marks 15 = .ok (.invokestatic 106, 3) := by decide +kernel
theorem dX9_marks_18 : decode cX9_marks 18 = .ok (.ifCond .ne 6, 3) := by decide +kernel
theorem dX9_marks_21 : decode cX9_marks 21 = .ok (.bipush (-3), 2) := by decide +kernel
theorem dX9_marks_23 : decode cX9_marks 23 = .ok (.ireturn, 1) := by decide +kernel
theorem dX9_marks_24 : decode cX9_marks 24 = .ok (.aload_n 0, 1) := by decide +kernel
theorem dX9_marks_25 : decode cX9_marks 25 = .ok (.getfield 19, 3) := by decide +kernel
theorem dX9_marks_28 : decode cX9_marks 28 = .ok (.getfield 110, 3) := by decide +kernel
theorem dX9_marks_31 : decode cX9_marks 31 = .ok (.iload_n 1, 1) := by decide +kernel
theorem dX9_marks_32 : decode cX9_marks 32 = .ok (.iaload, 1) := by decide +kernel
theorem dX9_marks_33 : decode cX9_marks 33 = .ok (.istore_n 3, 1) := by decide +kernel
theorem dX9_marks_34 : decode cX9_marks 34 = .ok (.aload_n 0, 1) := by decide +kernel
theorem dX9_marks_35 : decode cX9_marks 35 = .ok (.getfield 19, 3) := by decide +kernel
theorem dX9_marks_38 : decode cX9_marks 38 = .ok (.getfield 110, 3) := by decide +kernel
theorem dX9_marks_41 : decode cX9_marks 41 = .ok (.iload_n 1, 1) := by decide +kernel
theorem dX9_marks_42 : decode cX9_marks 42 = .ok (.iload_n 2, 1) := by decide +kernel
theorem dX9_marks_43 : decode cX9_marks 43 = .ok (.iastore, 1) := by decide +kernel
theorem dX9_marks_44 : decode cX9_marks 44 = .ok (.iload_n 3, 1) := by decide +kernel
theorem dX9_marks_45 : decode cX9_marks 45 = .ok (.ireturn, 1) := by decide +kernel
set_option maxRecDepth 20000 in
theorem ggX9_like_X9_isThing : GoodIn wsX9_like wsX9_isThing := goodIn_r _ [5, 6, 7, 4, 8] rfl (by decide +kernel)
set_option maxRecDepth 20000 in
theorem gX9_like_X9_isThing : GoodIn wsX9_like (va_wsS RX9 103 yX9_isThing wsX9_isThing) := goodIn_app (goodIn_of _ (by decide +kernel)) ggX9_like_X9_isThing
set_option maxRecDepth 20000 in
theorem ggX9_like_X2_shared : GoodIn wsX9_like wsX2_shared := goodIn_r _ [13, 14, 15, 16, 17, 18, 19, 20, 21, 33] rfl (by decide +kernel)
set_option maxRecDepth 20000 in
theorem gX9_like_X2_shared : GoodIn wsX9_like (wsV RX9 113 RX2 yX2_shared wsX2_shared) := goodIn_app (goodIn_of _ (by decide +kernel)) ggX9_like_X2_shared
theorem dX9_like_0 : decode cX9_like 0 = .ok (.iload_n 1, 1) := by decide +kernel
theorem dX9_like_1 : decode cX9_like 1 = .ok (.invokestatic 103, 3) := by decide +kernel
theorem dX9_like_4 : decode cX9_like 4 = .ok (.ifCond .eq 10, 3) := by decide +kernel
theorem dX9_like_7 : decode cX9_like 7 = .ok (.iload_n 2, 1) := by decide +kernel
theorem dX9_like_8 : decode cX9_like 8 = .ok (.invokestatic 103, 3) := by decide +kernel
theorem dX9_like_11 : decode cX9_like 11 = .ok (.ifCond .ne 6, 3) := by decide +kernel
theorem dX9_like_14 : decode cX9_like 14 = .ok (.bipush (-2), 2) := by decide +kernel
theorem dX9_like_16 : decode cX9_like 16 = .ok (.ireturn, 1) := by decide +kernel
theorem dX9_like_17 : decode cX9_like 17 = .ok (.aload_n 0, 1) := by decide +kernel
theorem dX9_like_18 : decode cX9_like 18 = .ok (.getfield 19, 3) := by decide +kernel
theorem dX9_like_21 : decode cX9_like 21 = .ok (.iload_n 1, 1) := by decide +kernel
theorem dX9_like_22 : decode cX9_like 22 = .ok (.iload_n 2, 1) := by decide +kernel
theorem dX9_like_23 : decode cX9_like 23 = .ok (.invokevirtual 113, 3) := by decide +kernel
theorem dX9_like_26 : decode cX9_like 26 = .ok (.ireturn, 1) := by decide +kernel
set_option maxRecDepth 20000 in
theorem ggX9_set_X9_within : GoodIn wsX9_set wsX9_within := goodIn_r _ [5] rfl (by decide +kernel)
set_option maxRecDepth 20000 in
theorem gX9_set_X9_within : GoodIn wsX9_set (va_wsS RX9 106 yX9_within wsX9_within) := goodIn_app (goodIn_of _ (by decide +kernel)) ggX9_set_X9_within
theorem dX9_set_0 : decode cX9_set 0 = .ok (.iload_n 1, 1) := by decide +kernel
theorem dX9_set_1 : decode cX9_set 1 = .ok (.ifCond .ne 32, 3) := by decide +kernel
theorem dX9_set_4 : decode cX9_set 4 = .ok (.iload_n 2, 1) := by decide +kernel
theorem dX9_set_5 : decode cX9_set 5 = .ok (.iconst 1, 1) := by decide +kernel
theorem dX9_set_6 : decode cX9_set 6 = .ok (.bipush 8, 2) := by decide +kernel
theorem dX9_set_8 : decode cX9_set 8 = .ok (.invokestatic 106, 3) := by decide +kernel
theorem dX9_set_11 : decode cX9_set 11 = .ok (.ifCond .eq 22, 3) := by decide +kernel
theorem dX9_set_14 : decode cX9_set 14 = .ok (.aload_n 0, 1) := by decide +kernel
theorem dX9_set_15 : decode cX9_set 15 = .ok (.getfield 28, 3) := by decide +kernel
theorem dX9_set_18 : decode cX9_set 18 = .ok (.getfield 116, 3) := by decide +kernel
theorem dX9_set_21 : decode cX9_set 21 = .ok (.istore_n 3, 1) := by decide +kernel
theorem dX9_set_22 : decode cX9_set 22 = .ok (.aload_n 0, 1) := by decide +kernel
theorem dX9_set_23 : decode cX9_set 23 = .ok (.getfield 28, 3) := by decide +kernel
theorem dX9_set_26 : decode cX9_set 26 = .ok (.iload_n 2, 1) := by decide +kernel
theorem dX9_set_27 : decode cX9_set 27 = .ok (.putfield 116, 3) := by decide +kernel
theorem dX9_set_30 : decode cX9_set 30 = .ok (.goto 40, 3) := by decide +kernel
theorem dX9_set_33 : decode cX9_set 33 = .ok (.iload_n 1, 1) := by decide +kernel
theorem dX9_set_34 : decode cX9_set 34 = .ok (.iconst 1, 1) := by decide +kernel
theorem dX9_set_35 : decode cX9_set 35 = .ok (.if_icmp .ne 32, 3) := by decide +kernel
theorem dX9_set_38 : decode cX9_set 38 = .ok (.iload_n 2, 1) := by decide +kernel
theorem dX9_set_39 : decode cX9_set 39 = .ok (.iconst 0, 1) := by decide +kernel
theorem dX9_set_40 : decode cX9_set 40 = .ok (.bipush 100, 2) := by decide +kernel
theorem dX9_set_42 : decode cX9_set 42 = .ok (.invokestatic 106, 3) := by decide +kernel
theorem dX9_set_45 : decode cX9_set 45 = .ok (.ifCond .eq 22, 3) := by decide +kernel
theorem dX9_set_48 : decode cX9_set 48 = .ok (.aload_n 0, 1) := by decide +kernel
theorem dX9_set_49 : decode cX9_set 49 = .ok (.getfield 28, 3) := by decide +kernel
theorem dX9_set_52 : decode cX9_set 52 = .ok (.getfield 119, 3) := by decide +kernel
theorem dX9_set_55 : decode cX9_set 55 = .ok (.istore_n 3, 1) := by decide +kernel
theorem dX9_set_56 : decode cX9_set 56 = .ok (.aload_n 0, 1) := by decide +kernel
theorem dX9_set_57 : decode cX9_set 57 = .ok (.getfield 28, 3) := by decide +kernel
theorem dX9_set_60 : decode cX9_set 60 = .ok (.iload_n 2, 1) := by decide +kernel
theorem dX9_set_61 : decode cX9_set 61 = .ok (.putfield 119, 3) := by decide +kernel
theorem dX9_set_64 : decode cX9_set 64 = .ok (.goto 6, 3) := by decide +kernel
theorem dX9_set_67 : decode cX9_set 67 = .ok (.bipush (-3), 2) := by decide +kernel
theorem dX9_set_69 : decode cX9_set 69 = .ok (.istore_n 3, 1) := by decide +kernel
theorem dX9_set_70 : decode cX9_set 70 = .ok (.iload_n 3, 1) := by decide +kernel
theorem dX9_set_71 : decode cX9_set 71 = .ok (.ireturn, 1) := by decide +kernel
set_option maxRecDepth 20000 in
theorem ggX9_fall_X9_within : GoodIn wsX9_fall wsX9_within := goodIn_r _ [5] rfl (by decide +kernel)
set_option maxRecDepth 20000 in
theorem gX9_fall_X9_within : GoodIn wsX9_fall (va_wsS RX9 106 yX9_within wsX9_within) := goodIn_app (goodIn_of _ (by decide +kernel)) ggX9_fall_X9_within
theorem dX9_fall_0 : decode cX9_fall 0 = .ok (.iload_n 1, 1) := by decide +kernel
theorem dX9_fall_1 : decode cX9_fall 1 = .ok (.iconst 0, 1) := by decide +kernel
theorem dX9_fall_2 : decode cX9_fall 2 = .ok (.bipush 10, 2) := by decide +kernel
theorem dX9_fall_4 : decode cX9_fall 4 = .ok (.invokestatic 106, 3) := by decide +kernel
theorem dX9_fall_7 : decode cX9_fall 7 = .ok (.ifCond .eq 13, 3) := by decide +kernel
theorem dX9_fall_10 : decode cX9_fall 10 = .ok (.iload_n 2, 1) := by decide +kernel
theorem dX9_fall_11 : decode cX9_fall 11 = .ok (.iconst 0, 1) := by decide +kernel
theorem dX9_fall_12 : decode cX9_fall 12 = .ok (.bipush 30, 2) := by decide +kernel
theorem dX9_fall_14 : decode cX9_fall 14 = .ok (.invokestatic 106, 3) := by decide +kernel
theorem dX9_fall_17 : decode cX9_fall 17 = .ok (.ifCond .ne 6, 3) := by decide +kernel
theorem dX9_fall_20 : decode cX9_fall 20 = .ok (.bipush (-3), 2) := by decide +kernel
theorem dX9_fall_22 : decode cX9_fall 22 = .ok (.ireturn, 1) := by decide +kernel
theorem dX9_fall_23 : decode cX9_fall 23 = .ok (.aload_n 0, 1) := by decide +kernel
theorem dX9_fall_24 : decode cX9_fall 24 = .ok (.getfield 28, 3) := by decide +kernel
theorem dX9_fall_27 : decode cX9_fall 27 = .ok (.getfield 122, 3) := by decide +kernel
