theorem dX10_partsMost_22 : decode cX10_partsMost 22 = .ok (.iconst 0, 1) := by decide +kernel
theorem dX10_partsMost_23 : decode cX10_partsMost 23 = .ok (.istore 7, 2) := by decide +kernel
theorem dX10_partsMost_25 : decode cX10_partsMost 25 = .ok (.iload 7, 2) := by decide +kernel
theorem dX10_partsMost_27 : decode cX10_partsMost 27 = .ok (.bipush 81, 2) := by decide +kernel
theorem dX10_partsMost_29 : decode cX10_partsMost 29 = .ok (.if_icmp .ge 76, 3) := by decide +kernel
theorem dX10_partsMost_32 : decode cX10_partsMost 32 = .ok (.aload_n 0, 1) := by decide +kernel
theorem dX10_partsMost_33 : decode cX10_partsMost 33 = .ok (.iload_n 1, 1) := by decide +kernel
theorem dX10_partsMost_34 : decode cX10_partsMost 34 = .ok (.iload 7, 2) := by decide +kernel
theorem dX10_partsMost_36 : decode cX10_partsMost 36 = .ok (.invokevirtual 260, 3) := by decide +kernel
theorem dX10_partsMost_39 : decode cX10_partsMost 39 = .ok (.aload_n 0, 1) := by decide +kernel
theorem dX10_partsMost_40 : decode cX10_partsMost 40 = .ok (.getfield 80, 3) := by decide +kernel
theorem dX10_partsMost_43 : decode cX10_partsMost 43 = .ok (.iload_n 1, 1) := by decide +kernel
theorem dX10_partsMost_44 : decode cX10_partsMost 44 = .ok (.iaload, 1) := by decide +kernel
theorem dX10_partsMost_45 : decode cX10_partsMost 45 = .ok (.if_icmp .ne 7, 3) := by decide +kernel
theorem dX10_partsMost_48 : decode cX10_partsMost 48 = .ok (.iconst 1, 1) := by decide +kernel
theorem dX10_partsMost_49 : decode cX10_partsMost 49 = .ok (.goto 4, 3) := by decide +kernel
theorem dX10_partsMost_52 : decode cX10_partsMost 52 = .ok (.iconst 0, 1) := by decide +kernel
theorem dX10_partsMost_53 : decode cX10_partsMost 53 = .ok (.istore 8, 2) := by decide +kernel
theorem dX10_partsMost_55 : decode cX10_partsMost 55 = .ok (.iload 4, 2) := by decide +kernel
theorem dX10_partsMost_57 : decode cX10_partsMost 57 = .ok (.iload 8, 2) := by decide +kernel
theorem dX10_partsMost_59 : decode cX10_partsMost 59 = .ok (.ifCond .eq 7, 3) := by decide +kernel
theorem dX10_partsMost_62 : decode cX10_partsMost 62 = .ok (.iconst 1, 1) := by decide +kernel
theorem dX10_partsMost_63 : decode cX10_partsMost 63 = .ok (.goto 4, 3) := by decide +kernel
theorem dX10_partsMost_66 : decode cX10_partsMost 66 = .ok (.iconst 0, 1) := by decide +kernel
theorem dX10_partsMost_67 : decode cX10_partsMost 67 = .ok (.iadd, 1) := by decide +kernel
theorem dX10_partsMost_68 : decode cX10_partsMost 68 = .ok (.istore 4, 2) := by decide +kernel
theorem dX10_partsMost_70 : decode cX10_partsMost 70 = .ok (.iload 6, 2) := by decide +kernel
theorem dX10_partsMost_72 : decode cX10_partsMost 72 = .ok (.iload 8, 2) := by decide +kernel
theorem dX10_partsMost_74 : decode cX10_partsMost 74 = .ok (.ifCond .eq 21, 3) := by decide +kernel
theorem dX10_partsMost_77 : decode cX10_partsMost 77 = .ok (.iload 7, 2) := by decide +kernel
theorem dX10_partsMost_79 : decode cX10_partsMost 79 = .ok (.iload 5, 2) := by decide +kernel
theorem dX10_partsMost_81 : decode cX10_partsMost 81 = .ok (.invokestatic 257, 3) := by decide +kernel
theorem dX10_partsMost_84 : decode cX10_partsMost 84 = .ok (.ifCond .eq 7, 3) := by decide +kernel
theorem dX10_partsMost_87 : decode cX10_partsMost 87 = .ok (.iconst 1, 1) := by decide +kernel
theorem dX10_partsMost_88 : decode cX10_partsMost 88 = .ok (.goto 8, 3) := by decide +kernel
theorem dX10_partsMost_91 : decode cX10_partsMost 91 = .ok (.iconst (-1), 1) := by decide +kernel
theorem dX10_partsMost_92 : decode cX10_partsMost 92 = .ok (.goto 4, 3) := by decide +kernel
theorem dX10_partsMost_95 : decode cX10_partsMost 95 = .ok (.iconst 0, 1) := by decide +kernel
theorem dX10_partsMost_96 : decode cX10_partsMost 96 = .ok (.iadd, 1) := by decide +kernel
theorem dX10_partsMost_97 : decode cX10_partsMost 97 = .ok (.istore 6, 2) := by decide +kernel
theorem dX10_partsMost_99 : decode cX10_partsMost 99 = .ok (.iinc 7 1, 3) := by decide +kernel
theorem dX10_partsMost_102 : decode cX10_partsMost 102 = .ok (.goto (-77), 3) := by decide +kernel
theorem dX10_partsMost_105 : decode cX10_partsMost 105 = .ok (.iload 6, 2) := by decide +kernel
theorem dX10_partsMost_107 : decode cX10_partsMost 107 = .ok (.ifCond .ge 9, 3) := by decide +kernel
theorem dX10_partsMost_110 : decode cX10_partsMost 110 = .ok (.iload 6, 2) := by decide +kernel
theorem dX10_partsMost_112 : decode cX10_partsMost 112 = .ok (.ineg, 1) := by decide +kernel
theorem dX10_partsMost_113 : decode cX10_partsMost 113 = .ok (.goto 5, 3) := by decide +kernel
theorem dX10_partsMost_116 : decode cX10_partsMost 116 = .ok (.iload 6, 2) := by decide +kernel
theorem dX10_partsMost_118 : decode cX10_partsMost 118 = .ok (.istore 6, 2) := by decide +kernel
theorem dX10_partsMost_120 : decode cX10_partsMost 120 = .ok (.iload 6, 2) := by decide +kernel
theorem dX10_partsMost_122 : decode cX10_partsMost 122 = .ok (.iload_n 3, 1) := by decide +kernel
theorem dX10_partsMost_123 : decode cX10_partsMost 123 = .ok (.if_icmp .ge 8, 3) := by decide +kernel
theorem dX10_partsMost_126 : decode cX10_partsMost 126 = .ok (.iload 5, 2) := by decide +kernel
theorem dX10_partsMost_128 : decode cX10_partsMost 128 = .ok (.goto 4, 3) := by decide +kernel
theorem dX10_partsMost_131 : decode cX10_partsMost 131 = .ok (.iload_n 2, 1) := by decide +kernel
theorem dX10_partsMost_132 : decode cX10_partsMost 132 = .ok (.istore_n 2, 1) := by decide +kernel
theorem dX10_partsMost_133 : decode cX10_partsMost 133 = .ok (.iload 6, 2) := by decide +kernel
theorem dX10_partsMost_135 : decode cX10_partsMost 135 = .ok (.iload_n 3, 1) := by decide +kernel
theorem dX10_partsMost_136 : decode cX10_partsMost 136 = .ok (.if_icmp .ge 8, 3) := by decide +kernel
theorem dX10_partsMost_139 : decode cX10_partsMost 139 = .ok (.iload 6, 2) := by decide +kernel
theorem dX10_partsMost_141 : decode cX10_partsMost 141 = .ok (.goto 4, 3) := by decide +kernel
theorem dX10_partsMost_144 : decode cX10_partsMost 144 = .ok (.iload_n 3, 1) := by decide +kernel
theorem dX10_partsMost_145 : decode cX10_partsMost 145 = .ok (.istore_n 3, 1) := by decide +kernel
theorem dX10_partsMost_146 : decode cX10_partsMost 146 = .ok (.iinc 5 1, 3) := by decide +kernel
theorem dX10_partsMost_149 : decode cX10_partsMost 149 = .ok (.goto (-137), 3) := by decide +kernel
theorem dX10_partsMost_152 : decode cX10_partsMost 152 = .ok (.iload 4, 2) := by decide +kernel
theorem dX10_partsMost_154 : decode cX10_partsMost 154 = .ok (.ifCond .ne 7, 3) := by decide +kernel
theorem dX10_partsMost_157 : decode cX10_partsMost 157 = .ok (.iconst (-1), 1) := by decide +kernel
theorem dX10_partsMost_158 : decode cX10_partsMost 158 = .ok (.goto 4, 3) := by decide +kernel
theorem dX10_partsMost_161 : decode cX10_partsMost 161 = .ok (.iload_n 2, 1) := by decide +kernel
theorem dX10_partsMost_162 : decode cX10_partsMost 162 = .ok (.ireturn, 1) := by decide +kernel
set_option maxRecDepth 20000 in
theorem ggX10_pupil_X10_isPupil : GoodIn wsX10_pupil wsX10_isPupil := goodIn_r _ [5, 6, 7, 4, 8] rfl (by decide +kernel)
set_option maxRecDepth 20000 in
theorem gX10_pupil_X10_isPupil : GoodIn wsX10_pupil (va_wsS RX10 254 yX10_isPupil wsX10_isPupil) := goodIn_app (goodIn_of _ (by decide +kernel)) ggX10_pupil_X10_isPupil
set_option maxRecDepth 20000 in
theorem ggX10_pupil_X10_in : GoodIn wsX10_pupil wsX10_in := goodIn_r _ [8] rfl (by decide +kernel)
set_option maxRecDepth 20000 in
theorem gX10_pupil_X10_in : GoodIn wsX10_pupil (va_wsS RX10 93 yX10_in wsX10_in) := goodIn_app (goodIn_of _ (by decide +kernel)) ggX10_pupil_X10_in
set_option maxRecDepth 20000 in
theorem ggX10_pupil_X10_agrees : GoodIn wsX10_pupil wsX10_agrees := goodIn_r _ [12, 1, 13, 14, 15, 16, 4, 17, 22, 23, 24, 25, 26, 27, 28, 29, 30, 31, 32, 33, 34, 35, 36, 37, 38, 39, 40, 41, 42, 43, 44, 45, 46, 47, 48, 49, 50, 51, 52, 53, 54, 55, 56, 57, 58, 59, 60] rfl (by decide +kernel)
set_option maxRecDepth 20000 in
theorem gX10_pupil_X10_agrees : GoodIn wsX10_pupil (wsV RX10 260 RX10 yX10_agrees wsX10_agrees) := goodIn_app (goodIn_of _ (by decide +kernel)) ggX10_pupil_X10_agrees
set_option maxRecDepth 20000 in
theorem ggX10_pupil_X10_partsMost : GoodIn wsX10_pupil wsX10_partsMost := goodIn_r _ [21, 1, 9, 10, 11, 4, 12, 13, 14, 15, 16, 17, 22, 23, 24, 25, 26, 27, 28, 29, 30, 31, 32, 33, 34, 35, 36, 37, 38, 39, 40, 41, 42, 43, 44, 45, 46, 47, 48, 49, 50, 51, 52, 53, 54, 55, 56, 57, 58, 59, 60] rfl (by decide +kernel)
set_option maxRecDepth 20000 in
theorem gX10_pupil_X10_partsMost : GoodIn wsX10_pupil (wsV RX10 263 RX10 yX10_partsMost wsX10_partsMost) := goodIn_app (goodIn_of _ (by decide +kernel)) ggX10_pupil_X10_partsMost
theorem dX10_pupil_0 : decode cX10_pupil 0 = .ok (.iload_n 1, 1) := by decide +kernel
theorem dX10_pupil_1 : decode cX10_pupil 1 = .ok (.invokestatic 254, 3) := by decide +kernel
theorem dX10_pupil_4 : decode cX10_pupil 4 = .ok (.ifCond .ne 6, 3) := by decide +kernel
theorem dX10_pupil_7 : decode cX10_pupil 7 = .ok (.bipush (-2), 2) := by decide +kernel
theorem dX10_pupil_9 : decode cX10_pupil 9 = .ok (.ireturn, 1) := by decide +kernel
theorem dX10_pupil_10 : decode cX10_pupil 10 = .ok (.iload_n 2, 1) := by decide +kernel
theorem dX10_pupil_11 : decode cX10_pupil 11 = .ok (.iconst 0, 1) := by decide +kernel
theorem dX10_pupil_12 : decode cX10_pupil 12 = .ok (.iconst 3, 1) := by decide +kernel
theorem dX10_pupil_13 : decode cX10_pupil 13 = .ok (.invokestatic 93, 3) := by decide +kernel
theorem dX10_pupil_16 : decode cX10_pupil 16 = .ok (.ifCond .ne 6, 3) := by decide +kernel
theorem dX10_pupil_19 : decode cX10_pupil 19 = .ok (.bipush (-3), 2) := by decide +kernel
theorem dX10_pupil_21 : decode cX10_pupil 21 = .ok (.ireturn, 1) := by decide +kernel
theorem dX10_pupil_22 : decode cX10_pupil 22 = .ok (.iconst 0, 1) := by decide +kernel
theorem dX10_pupil_23 : decode cX10_pupil 23 = .ok (.istore_n 3, 1) := by decide +kernel
theorem dX10_pupil_24 : decode cX10_pupil 24 = .ok (.iconst 0, 1) := by decide +kernel
theorem dX10_pupil_25 : decode cX10_pupil 25 = .ok (.istore 4, 2) := by decide +kernel
theorem dX10_pupil_27 : decode cX10_pupil 27 = .ok (.iconst (-1), 1) := by decide +kernel
theorem dX10_pupil_28 : decode cX10_pupil 28 = .ok (.istore 5, 2) := by decide +kernel
theorem dX10_pupil_30 : decode cX10_pupil 30 = .ok (.iconst 0, 1) := by decide +kernel
theorem dX10_pupil_31 : decode cX10_pupil 31 = .ok (.istore 6, 2) := by decide +kernel
theorem dX10_pupil_33 : decode cX10_pupil 33 = .ok (.iload 6, 2) := by decide +kernel
theorem dX10_pupil_35 : decode cX10_pupil 35 = .ok (.bipush 81, 2) := by decide +kernel
theorem dX10_pupil_37 : decode cX10_pupil 37 = .ok (.if_icmp .ge 69, 3) := by decide +kernel
theorem dX10_pupil_40 : decode cX10_pupil 40 = .ok (.aload_n 0, 1) := by decide +kernel
theorem dX10_pupil_41 : decode cX10_pupil 41 = .ok (.iload_n 1, 1) := by decide +kernel
theorem dX10_pupil_42 : decode cX10_pupil 42 = .ok (.iload 6, 2) := by decide +kernel
theorem dX10_pupil_44 : decode cX10_pupil 44 = .ok (.invokevirtual 260, 3) := by decide +kernel
theorem dX10_pupil_47 : decode cX10_pupil 47 = .ok (.istore 7, 2) := by decide +kernel
theorem dX10_pupil_49 : decode cX10_pupil 49 = .ok (.iload_n 3, 1) := by decide +kernel
theorem dX10_pupil_50 : decode cX10_pupil 50 = .ok (.iload 7, 2) := by decide +kernel
theorem dX10_pupil_52 : decode cX10_pupil 52 = .ok (.aload_n 0, 1) := by decide +kernel
theorem dX10_pupil_53 : decode cX10_pupil 53 = .ok (.getfield 80, 3) := by decide +kernel
theorem dX10_pupil_56 : decode cX10_pupil 56 = .ok (.iload_n 1, 1) := by decide +kernel
theorem dX10_pupil_57 : decode cX10_pupil 57 = .ok (.iaload, 1) := by decide +kernel
theorem dX10_pupil_58 : decode cX10_pupil 58 = .ok (.if_icmp .ne 7, 3) := by decide +kernel
theorem dX10_pupil_61 : decode cX10_pupil 61 = .ok (.iconst 1, 1) := by decide +kernel
theorem dX10_pupil_62 : decode cX10_pupil 62 = .ok (.goto 4, 3) := by decide +kernel
theorem dX10_pupil_65 : decode cX10_pupil 65 = .ok (.iconst 0, 1) := by decide +kernel
theorem dX10_pupil_66 : decode cX10_pupil 66 = .ok (.iadd, 1) := by decide +kernel
theorem dX10_pupil_67 : decode cX10_pupil 67 = .ok (.istore_n 3, 1) := by decide +kernel
theorem dX10_pupil_68 : decode cX10_pupil 68 = .ok (.iload 7, 2) := by decide +kernel
theorem dX10_pupil_70 : decode cX10_pupil 70 = .ok (.iload 5, 2) := by decide +kernel
theorem dX10_pupil_72 : decode cX10_pupil 72 = .ok (.if_icmp .le 8, 3) := by decide +kernel
theorem dX10_pupil_75 : decode cX10_pupil 75 = .ok (.iload 6, 2) := by decide +kernel
theorem dX10_pupil_77 : decode cX10_pupil 77 = .ok (.goto 5, 3) := by decide +kernel
theorem dX10_pupil_80 : decode cX10_pupil 80 = .ok (.iload 4, 2) := by decide +kernel
theorem dX10_pupil_82 : decode cX10_pupil 82 = .ok (.istore 4, 2) := by decide +kernel
theorem dX10_pupil_84 : decode cX10_pupil 84 = .ok (.iload 7, 2) := by decide +kernel
theorem dX10_pupil_86 : decode cX10_pupil 86 = .ok (.iload 5, 2) := by decide +kernel
theorem dX10_pupil_88 : decode cX10_pupil 88 = .ok (.if_icmp .le 8, 3) := by decide +kernel
theorem dX10_pupil_91 : decode cX10_pupil 91 = .ok (.iload 7, 2) := by decide +kernel
theorem dX10_pupil_93 : decode cX10_pupil 93 = .ok (.goto 5, 3) := by decide +kernel
theorem dX10_pupil_96 : decode cX10_pupil 96 = .ok (.iload 5, 2) := by decide +kernel
theorem dX10_pupil_98 : decode cX10_pupil 98 = .ok (.istore 5, 2) := by decide +kernel
theorem dX10_pupil_100 : decode cX10_pupil 100 = .ok (.iinc 6 1, 3) := by decide +kernel
theorem dX10_pupil_103 : decode cX10_pupil 103 = .ok (.goto (-70), 3) := by decide +kernel
theorem dX10_pupil_106 : decode cX10_pupil 106 = .ok (.iload_n 2, 1) := by decide +kernel
theorem dX10_pupil_107 : decode cX10_pupil 107 = .ok (.ifCond .ne 7, 3) := by decide +kernel
theorem dX10_pupil_110 : decode cX10_pupil 110 = .ok (.iload_n 3, 1) := by decide +kernel
theorem dX10_pupil_111 : decode cX10_pupil 111 = .ok (.goto 47, 3) := by decide +kernel
theorem dX10_pupil_114 : decode cX10_pupil 114 = .ok (.iload_n 2, 1) := by decide +kernel
theorem dX10_pupil_115 : decode cX10_pupil 115 = .ok (.iconst 1, 1) := by decide +kernel
theorem dX10_pupil_116 : decode cX10_pupil 116 = .ok (.if_icmp .ne 27, 3) := by decide +kernel
theorem dX10_pupil_119 : decode cX10_pupil 119 = .ok (.bipush 100, 2) := by decide +kernel
theorem dX10_pupil_121 : decode cX10_pupil 121 = .ok (.iload 4, 2) := by decide +kernel
theorem dX10_pupil_123 : decode cX10_pupil 123 = .ok (.bipush 9, 2) := by decide +kernel
theorem dX10_pupil_125 : decode cX10_pupil 125 = .ok (.idiv, 1) := by decide +kernel
theorem dX10_pupil_126 : decode cX10_pupil 126 = .ok (.iconst 1, 1) := by decide +kernel
theorem dX10_pupil_127 : decode cX10_pupil 127 = .ok (.iadd, 1) := by decide +kernel
theorem dX10_pupil_128 : decode cX10_pupil 128 = .ok (.imul, 1) := by decide +kernel
theorem dX10_pupil_129 : decode cX10_pupil 129 = .ok (.bipush 10, 2) := by decide +kernel
theorem dX10_pupil_131 : decode cX10_pupil 131 = .ok (.iload 4, 2) := by decide +kernel
theorem dX10_pupil_133 : decode cX10_pupil 133 = .ok (.bipush 9, 2) := by decide +kernel
theorem dX10_pupil_135 : decode cX10_pupil 135 = .ok (.irem, 1) := by decide +kernel
theorem dX10_pupil_136 : decode cX10_pupil 136 = .ok (.iconst 1, 1) := by decide +kernel
theorem dX10_pupil_137 : decode cX10_pupil 137 = .ok (.iadd, 1) := by decide +kernel
theorem dX10_pupil_138 : decode cX10_pupil 138 = .ok (.imul, 1) := by decide +kernel
theorem dX10_pupil_139 : decode cX10_pupil 139 = .ok (.iadd, 1) := by decide +kernel
theorem dX10_pupil_140 : decode cX10_pupil 140 = .ok (.goto 18, 3) := by decide +kernel
theorem dX10_pupil_143 : decode cX10_pupil 143 = .ok (.iload_n 2, 1) := by decide +kernel
theorem dX10_pupil_144 : decode cX10_pupil 144 = .ok (.iconst 2, 1) := by decide +kernel
theorem dX10_pupil_145 : decode cX10_pupil 145 = .ok (.if_icmp .ne 8, 3) := by decide +kernel
theorem dX10_pupil_148 : decode cX10_pupil 148 = .ok (.iload 5, 2) := by decide +kernel
theorem dX10_pupil_150 : decode cX10_pupil 150 = .ok (.goto 8, 3) := by decide +kernel
theorem dX10_pupil_153 : decode cX10_pupil 153 = .ok (.aload_n 0, 1) := by decide +kernel
theorem dX10_pupil_154 : decode cX10_pupil 154 = .ok (.iload_n 1, 1) := by decide +kernel
theorem dX10_pupil_155 : decode cX10_pupil 155 = .ok (.invokevirtual 263, 3) := by decide +kernel
theorem dX10_pupil_158 : decode cX10_pupil 158 = .ok (.ireturn, 1) := by decide +kernel
set_option maxRecDepth 20000 in
theorem ggX10_figures_X10_in : GoodIn wsX10_figures wsX10_in := goodIn_r _ [5] rfl (by decide +kernel)
set_option maxRecDepth 20000 in
theorem gX10_figures_X10_in : GoodIn wsX10_figures (va_wsS RX10 93 yX10_in wsX10_in) := goodIn_app (goodIn_of _ (by decide +kernel)) ggX10_figures_X10_in
theorem dX10_figures_0 : decode cX10_figures 0 = .ok (.iload_n 1, 1) := by decide +kernel
theorem dX10_figures_1 : decode cX10_figures 1 = .ok (.iconst 0, 1) := by decide +kernel
theorem dX10_figures_2 : decode cX10_figures 2 = .ok (.bipush 9, 2) := by decide +kernel
theorem dX10_figures_4 : decode cX10_figures 4 = .ok (.invokestatic 93, 3) := by decide +kernel
theorem dX10_figures_7 : decode cX10_figures 7 = .ok (.ifCond .eq 18, 3) := by decide +kernel
theorem dX10_figures_10 : decode cX10_figures 10 = .ok (.iload_n 2, 1) := by decide +kernel
theorem dX10_figures_11 : decode cX10_figures 11 = .ok (.iconst 0, 1) := by decide +kernel
theorem dX10_figures_12 : decode cX10_figures 12 = .ok (.bipush 9, 2) := by decide +kernel
theorem dX10_figures_14 : decode cX10_figures 14 = .ok (.invokestatic 93, 3) := by decide +kernel
theorem dX10_figures_17 : decode cX10_figures 17 = .ok (.ifCond .eq 8, 3) := by decide +kernel
theorem dX10_figures_20 : decode cX10_figures 20 = .ok (.iload_n 1, 1) := by decide +kernel
theorem dX10_figures_21 : decode cX10_figures 21 = .ok (.iload_n 2, 1) := by decide +kernel
theorem dX10_figures_22 : decode cX10_figures 22 = .ok (.if_icmp .ne 6, 3) := by decide +kernel
theorem dX10_figures_25 : decode cX10_figures 25 = .ok (.bipush (-2), 2) := by decide +kernel
theorem dX10_figures_27 : decode cX10_figures 27 = .ok (.ireturn, 1) := by decide +kernel
theorem dX10_figures_28 : decode cX10_figures 28 = .ok (.iload_n 3, 1) := by decide +kernel
theorem dX10_figures_29 : decode cX10_figures 29 = .ok (.iconst 0, 1) := by decide +kernel
theorem dX10_figures_30 : decode cX10_figures 30 = .ok (.bipush 9, 2) := by decide +kernel
theorem dX10_figures_32 : decode cX10_figures 32 = .ok (.invokestatic 93, 3) := by decide +kernel
theorem dX10_figures_35 : decode cX10_figures 35 = .ok (.ifCond .ne 6, 3) := by decide +kernel
theorem dX10_figures_38 : decode cX10_figures 38 = .ok (.bipush (-3), 2) := by decide +kernel
theorem dX10_figures_40 : decode cX10_figures 40 = .ok (.ireturn, 1) := by decide +kernel
theorem dX10_figures_41 : decode cX10_figures 41 = .ok (.aload_n 0, 1) := by decide +kernel
theorem dX10_figures_42 : decode cX10_figures 42 = .ok (.getfield 90, 3) := by decide +kernel
theorem dX10_figures_45 : decode cX10_figures 45 = .ok (.bipush 10, 2) := by decide +kernel
theorem dX10_figures_47 : decode cX10_figures 47 = .ok (.iload_n 1, 1) := by decide +kernel
theorem dX10_figures_48 : decode cX10_figures 48 = .ok (.imul, 1) := by decide +kernel
theorem dX10_figures_49 : decode cX10_figures 49 = .ok (.iload_n 2, 1) := by decide +kernel
theorem dX10_figures_50 : decode cX10_figures 50 = .ok (.iadd, 1) := by decide +kernel
theorem dX10_figures_51 : decode cX10_figures 51 = .ok (.iaload, 1) := by decide +kernel
theorem dX10_figures_52 : decode cX10_figures 52 = .ok (.istore 4, 2) := by decide +kernel
theorem dX10_figures_54 : decode cX10_figures 54 = .ok (.aload_n 0, 1) := by decide +kernel
theorem dX10_figures_55 : decode cX10_figures 55 = .ok (.getfield 90, 3) := by decide +kernel
theorem dX10_figures_58 : decode cX10_figures 58 = .ok (.bipush 10, 2) := by decide +kernel
theorem dX10_figures_60 : decode cX10_figures 60 = .ok (.iload_n 1, 1) := by decide +kernel
theorem dX10_figures_61 : decode cX10_figures 61 = .ok (.imul, 1) := by decide +kernel
theorem dX10_figures_62 : decode cX10_figures 62 = .ok (.iload_n 2, 1) := by decide +kernel
theorem dX10_figures_63 : decode cX10_figures 63 = .ok (.iadd, 1) := by decide +kernel
