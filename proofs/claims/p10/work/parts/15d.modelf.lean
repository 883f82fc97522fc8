theorem dX10_figures_64 : decode cX10_figures 64 = .ok (.iload_n 3, 1) := by decide +kernel
theorem dX10_figures_65 : decode cX10_figures 65 = .ok (.iastore, 1) := by decide +kernel
theorem dX10_figures_66 : decode cX10_figures 66 = .ok (.aload_n 0, 1) := by decide +kernel
theorem dX10_figures_67 : decode cX10_figures 67 = .ok (.getfield 90, 3) := by decide +kernel
theorem dX10_figures_70 : decode cX10_figures 70 = .ok (.bipush 10, 2) := by decide +kernel
theorem dX10_figures_72 : decode cX10_figures 72 = .ok (.iload_n 2, 1) := by decide +kernel
theorem dX10_figures_73 : decode cX10_figures 73 = .ok (.imul, 1) := by decide +kernel
theorem dX10_figures_74 : decode cX10_figures 74 = .ok (.iload_n 1, 1) := by decide +kernel
theorem dX10_figures_75 : decode cX10_figures 75 = .ok (.iadd, 1) := by decide +kernel
theorem dX10_figures_76 : decode cX10_figures 76 = .ok (.iload_n 3, 1) := by decide +kernel
theorem dX10_figures_77 : decode cX10_figures 77 = .ok (.iastore, 1) := by decide +kernel
theorem dX10_figures_78 : decode cX10_figures 78 = .ok (.iload 4, 2) := by decide +kernel
theorem dX10_figures_80 : decode cX10_figures 80 = .ok (.ireturn, 1) := by decide +kernel
set_option maxRecDepth 20000 in
theorem ggX10_enough_X10_in : GoodIn wsX10_enough wsX10_in := goodIn_r _ [4] rfl (by decide +kernel)
set_option maxRecDepth 20000 in
theorem gX10_enough_X10_in : GoodIn wsX10_enough (va_wsS RX10 93 yX10_in wsX10_in) := goodIn_app (goodIn_of _ (by decide +kernel)) ggX10_enough_X10_in
set_option maxRecDepth 20000 in
theorem ggX10_enough_X10_doorsTo : GoodIn wsX10_enough wsX10_doorsTo := goodIn_r _ [8, 9, 10, 11, 12, 19, 20, 21, 22, 23, 24, 25, 26, 27, 28, 29, 30, 31, 32, 33, 34, 35, 36, 37, 38, 39, 40, 41, 42, 43, 44, 45, 46, 47, 48, 49, 50, 51, 52, 53, 54, 55, 56, 57] rfl (by decide +kernel)
set_option maxRecDepth 20000 in
theorem gX10_enough_X10_doorsTo : GoodIn wsX10_enough (wsV RX10 108 RX10 yX10_doorsTo wsX10_doorsTo) := goodIn_app (goodIn_of _ (by decide +kernel)) ggX10_enough_X10_doorsTo
set_option maxRecDepth 20000 in
theorem ggX10_enough_X10_lastOf : GoodIn wsX10_enough wsX10_lastOf := goodIn_r _ [16, 17, 18, 19, 20, 21, 22, 23, 24, 25, 26, 27, 28, 29, 30, 31, 32, 33, 34, 35, 36, 37, 38, 39, 40, 41, 42, 43, 44, 45, 46, 47, 48, 49, 50, 51, 52, 53, 54, 55, 56, 57] rfl (by decide +kernel)
set_option maxRecDepth 20000 in
theorem gX10_enough_X10_lastOf : GoodIn wsX10_enough (wsV RX10 216 RX10 yX10_lastOf wsX10_lastOf) := goodIn_app (goodIn_of _ (by decide +kernel)) ggX10_enough_X10_lastOf
theorem dX10_enough_0 : decode cX10_enough 0 = .ok (.iload_n 1, 1) := by decide +kernel
theorem dX10_enough_1 : decode cX10_enough 1 = .ok (.iconst 0, 1) := by decide +kernel
theorem dX10_enough_2 : decode cX10_enough 2 = .ok (.bipush 48, 2) := by decide +kernel
theorem dX10_enough_4 : decode cX10_enough 4 = .ok (.invokestatic 93, 3) := by decide +kernel
theorem dX10_enough_7 : decode cX10_enough 7 = .ok (.ifCond .ne 6, 3) := by decide +kernel
theorem dX10_enough_10 : decode cX10_enough 10 = .ok (.bipush (-3), 2) := by decide +kernel
theorem dX10_enough_12 : decode cX10_enough 12 = .ok (.ireturn, 1) := by decide +kernel
theorem dX10_enough_13 : decode cX10_enough 13 = .ok (.iconst 0, 1) := by decide +kernel
theorem dX10_enough_14 : decode cX10_enough 14 = .ok (.istore_n 2, 1) := by decide +kernel
theorem dX10_enough_15 : decode cX10_enough 15 = .ok (.iconst 0, 1) := by decide +kernel
theorem dX10_enough_16 : decode cX10_enough 16 = .ok (.istore_n 3, 1) := by decide +kernel
theorem dX10_enough_17 : decode cX10_enough 17 = .ok (.iconst 0, 1) := by decide +kernel
theorem dX10_enough_18 : decode cX10_enough 18 = .ok (.istore 4, 2) := by decide +kernel
theorem dX10_enough_20 : decode cX10_enough 20 = .ok (.iload 4, 2) := by decide +kernel
theorem dX10_enough_22 : decode cX10_enough 22 = .ok (.bipush 8, 2) := by decide +kernel
theorem dX10_enough_24 : decode cX10_enough 24 = .ok (.if_icmp .ge 78, 3) := by decide +kernel
theorem dX10_enough_27 : decode cX10_enough 27 = .ok (.iload_n 2, 1) := by decide +kernel
theorem dX10_enough_28 : decode cX10_enough 28 = .ok (.iload_n 1, 1) := by decide +kernel
theorem dX10_enough_29 : decode cX10_enough 29 = .ok (.if_icmp .ge 73, 3) := by decide +kernel
theorem dX10_enough_32 : decode cX10_enough 32 = .ok (.iconst 0, 1) := by decide +kernel
theorem dX10_enough_33 : decode cX10_enough 33 = .ok (.istore 5, 2) := by decide +kernel
theorem dX10_enough_35 : decode cX10_enough 35 = .ok (.iload 5, 2) := by decide +kernel
theorem dX10_enough_37 : decode cX10_enough 37 = .ok (.bipush 8, 2) := by decide +kernel
theorem dX10_enough_39 : decode cX10_enough 39 = .ok (.if_icmp .ge 57, 3) := by decide +kernel
theorem dX10_enough_42 : decode cX10_enough 42 = .ok (.iload_n 2, 1) := by decide +kernel
theorem dX10_enough_43 : decode cX10_enough 43 = .ok (.iload_n 1, 1) := by decide +kernel
theorem dX10_enough_44 : decode cX10_enough 44 = .ok (.if_icmp .ge 52, 3) := by decide +kernel
theorem dX10_enough_47 : decode cX10_enough 47 = .ok (.aload_n 0, 1) := by decide +kernel
theorem dX10_enough_48 : decode cX10_enough 48 = .ok (.iconst 0, 1) := by decide +kernel
theorem dX10_enough_49 : decode cX10_enough 49 = .ok (.iload 5, 2) := by decide +kernel
theorem dX10_enough_51 : decode cX10_enough 51 = .ok (.invokevirtual 108, 3) := by decide +kernel
theorem dX10_enough_54 : decode cX10_enough 54 = .ok (.iload 4, 2) := by decide +kernel
theorem dX10_enough_56 : decode cX10_enough 56 = .ok (.if_icmp .ne 34, 3) := by decide +kernel
theorem dX10_enough_59 : decode cX10_enough 59 = .ok (.aload_n 0, 1) := by decide +kernel
theorem dX10_enough_60 : decode cX10_enough 60 = .ok (.iconst 0, 1) := by decide +kernel
theorem dX10_enough_61 : decode cX10_enough 61 = .ok (.iload 5, 2) := by decide +kernel
theorem dX10_enough_63 : decode cX10_enough 63 = .ok (.bipush 6, 2) := by decide +kernel
theorem dX10_enough_65 : decode cX10_enough 65 = .ok (.invokevirtual 216, 3) := by decide +kernel
theorem dX10_enough_68 : decode cX10_enough 68 = .ok (.istore 6, 2) := by decide +kernel
theorem dX10_enough_70 : decode cX10_enough 70 = .ok (.iload_n 2, 1) := by decide +kernel
theorem dX10_enough_71 : decode cX10_enough 71 = .ok (.iload 6, 2) := by decide +kernel
theorem dX10_enough_73 : decode cX10_enough 73 = .ok (.bipush 6, 2) := by decide +kernel
theorem dX10_enough_75 : decode cX10_enough 75 = .ok (.if_icmp .le 8, 3) := by decide +kernel
theorem dX10_enough_78 : decode cX10_enough 78 = .ok (.bipush 6, 2) := by decide +kernel
theorem dX10_enough_80 : decode cX10_enough 80 = .ok (.goto 5, 3) := by decide +kernel
theorem dX10_enough_83 : decode cX10_enough 83 = .ok (.iload 6, 2) := by decide +kernel
theorem dX10_enough_85 : decode cX10_enough 85 = .ok (.iadd, 1) := by decide +kernel
theorem dX10_enough_86 : decode cX10_enough 86 = .ok (.istore_n 2, 1) := by decide +kernel
theorem dX10_enough_87 : decode cX10_enough 87 = .ok (.iinc 3 1, 3) := by decide +kernel
theorem dX10_enough_90 : decode cX10_enough 90 = .ok (.iinc 5 1, 3) := by decide +kernel
theorem dX10_enough_93 : decode cX10_enough 93 = .ok (.goto (-58), 3) := by decide +kernel
theorem dX10_enough_96 : decode cX10_enough 96 = .ok (.iinc 4 1, 3) := by decide +kernel
theorem dX10_enough_99 : decode cX10_enough 99 = .ok (.goto (-79), 3) := by decide +kernel
theorem dX10_enough_102 : decode cX10_enough 102 = .ok (.iload_n 2, 1) := by decide +kernel
theorem dX10_enough_103 : decode cX10_enough 103 = .ok (.iload_n 1, 1) := by decide +kernel
theorem dX10_enough_104 : decode cX10_enough 104 = .ok (.if_icmp .ge 7, 3) := by decide +kernel
theorem dX10_enough_107 : decode cX10_enough 107 = .ok (.iconst (-1), 1) := by decide +kernel
theorem dX10_enough_108 : decode cX10_enough 108 = .ok (.goto 4, 3) := by decide +kernel
theorem dX10_enough_111 : decode cX10_enough 111 = .ok (.iload_n 3, 1) := by decide +kernel
theorem dX10_enough_112 : decode cX10_enough 112 = .ok (.ireturn, 1) := by decide +kernel
set_option maxRecDepth 20000 in
theorem ggX10_count_X10_standIn : GoodIn wsX10_count wsX10_standIn := goodIn_r _ [12, 4, 13, 14, 15, 16, 17, 18, 19, 20, 21, 22, 23, 24, 25, 26, 27, 28, 29, 30, 31, 32, 33, 34, 35, 36, 37, 38, 39, 40, 41, 42, 43, 44, 45, 46, 47, 48, 49, 50, 51] rfl (by decide +kernel)
set_option maxRecDepth 20000 in
theorem gX10_count_X10_standIn : GoodIn wsX10_count (wsV RX10 213 RX10 yX10_standIn wsX10_standIn) := goodIn_app (goodIn_of _ (by decide +kernel)) ggX10_count_X10_standIn
theorem dX10_count_0 : decode cX10_count 0 = .ok (.iconst 0, 1) := by decide +kernel
theorem dX10_count_1 : decode cX10_count 1 = .ok (.istore_n 2, 1) := by decide +kernel
theorem dX10_count_2 : decode cX10_count 2 = .ok (.iload_n 1, 1) := by decide +kernel
theorem dX10_count_3 : decode cX10_count 3 = .ok (.tableswitch 158 0 6 #[41, 46, 51, 75, 109, 148, 153], 41) := by decide +kernel
theorem dX10_count_44 : decode cX10_count 44 = .ok (.aload_n 0, 1) := by decide +kernel
theorem dX10_count_45 : decode cX10_count 45 = .ok (.getfield 125, 3) := by decide +kernel
theorem dX10_count_48 : decode cX10_count 48 = .ok (.ireturn, 1) := by decide +kernel
theorem dX10_count_49 : decode cX10_count 49 = .ok (.aload_n 0, 1) := by decide +kernel
theorem dX10_count_50 : decode cX10_count 50 = .ok (.getfield 97, 3) := by decide +kernel
theorem dX10_count_53 : decode cX10_count 53 = .ok (.ireturn, 1) := by decide +kernel
theorem dX10_count_54 : decode cX10_count 54 = .ok (.iconst 0, 1) := by decide +kernel
theorem dX10_count_55 : decode cX10_count 55 = .ok (.istore_n 3, 1) := by decide +kernel
theorem dX10_count_56 : decode cX10_count 56 = .ok (.iload_n 3, 1) := by decide +kernel
theorem dX10_count_57 : decode cX10_count 57 = .ok (.bipush 8, 2) := by decide +kernel
theorem dX10_count_59 : decode cX10_count 59 = .ok (.if_icmp .ge 17, 3) := by decide +kernel
theorem dX10_count_62 : decode cX10_count 62 = .ok (.iload_n 2, 1) := by decide +kernel
theorem dX10_count_63 : decode cX10_count 63 = .ok (.aload_n 0, 1) := by decide +kernel
theorem dX10_count_64 : decode cX10_count 64 = .ok (.iload_n 3, 1) := by decide +kernel
theorem dX10_count_65 : decode cX10_count 65 = .ok (.invokevirtual 213, 3) := by decide +kernel
theorem dX10_count_68 : decode cX10_count 68 = .ok (.iadd, 1) := by decide +kernel
theorem dX10_count_69 : decode cX10_count 69 = .ok (.istore_n 2, 1) := by decide +kernel
theorem dX10_count_70 : decode cX10_count 70 = .ok (.iinc 3 1, 3) := by decide +kernel
theorem dX10_count_73 : decode cX10_count 73 = .ok (.goto (-17), 3) := by decide +kernel
theorem dX10_count_76 : decode cX10_count 76 = .ok (.iload_n 2, 1) := by decide +kernel
theorem dX10_count_77 : decode cX10_count 77 = .ok (.ireturn, 1) := by decide +kernel
theorem dX10_count_78 : decode cX10_count 78 = .ok (.iconst 0, 1) := by decide +kernel
theorem dX10_count_79 : decode cX10_count 79 = .ok (.istore_n 3, 1) := by decide +kernel
theorem dX10_count_80 : decode cX10_count 80 = .ok (.iload_n 3, 1) := by decide +kernel
theorem dX10_count_81 : decode cX10_count 81 = .ok (.bipush 48, 2) := by decide +kernel
theorem dX10_count_83 : decode cX10_count 83 = .ok (.if_icmp .ge 27, 3) := by decide +kernel
theorem dX10_count_86 : decode cX10_count 86 = .ok (.iload_n 2, 1) := by decide +kernel
theorem dX10_count_87 : decode cX10_count 87 = .ok (.aload_n 0, 1) := by decide +kernel
theorem dX10_count_88 : decode cX10_count 88 = .ok (.getfield 38, 3) := by decide +kernel
theorem dX10_count_91 : decode cX10_count 91 = .ok (.iload_n 3, 1) := by decide +kernel
theorem dX10_count_92 : decode cX10_count 92 = .ok (.iaload, 1) := by decide +kernel
theorem dX10_count_93 : decode cX10_count 93 = .ok (.iconst (-1), 1) := by decide +kernel
theorem dX10_count_94 : decode cX10_count 94 = .ok (.if_icmp .ne 7, 3) := by decide +kernel
theorem dX10_count_97 : decode cX10_count 97 = .ok (.iconst 0, 1) := by decide +kernel
theorem dX10_count_98 : decode cX10_count 98 = .ok (.goto 4, 3) := by decide +kernel
theorem dX10_count_101 : decode cX10_count 101 = .ok (.iconst 1, 1) := by decide +kernel
theorem dX10_count_102 : decode cX10_count 102 = .ok (.iadd, 1) := by decide +kernel
theorem dX10_count_103 : decode cX10_count 103 = .ok (.istore_n 2, 1) := by decide +kernel
theorem dX10_count_104 : decode cX10_count 104 = .ok (.iinc 3 1, 3) := by decide +kernel
theorem dX10_count_107 : decode cX10_count 107 = .ok (.goto (-27), 3) := by decide +kernel
theorem dX10_count_110 : decode cX10_count 110 = .ok (.iload_n 2, 1) := by decide +kernel
theorem dX10_count_111 : decode cX10_count 111 = .ok (.ireturn, 1) := by decide +kernel
theorem dX10_count_112 : decode cX10_count 112 = .ok (.iconst 0, 1) := by decide +kernel
theorem dX10_count_113 : decode cX10_count 113 = .ok (.istore_n 3, 1) := by decide +kernel
theorem dX10_count_114 : decode cX10_count 114 = .ok (.iload_n 3, 1) := by decide +kernel
theorem dX10_count_115 : decode cX10_count 115 = .ok (.bipush 48, 2) := by decide +kernel
theorem dX10_count_117 : decode cX10_count 117 = .ok (.if_icmp .ge 32, 3) := by decide +kernel
theorem dX10_count_120 : decode cX10_count 120 = .ok (.iload_n 2, 1) := by decide +kernel
theorem dX10_count_121 : decode cX10_count 121 = .ok (.aload_n 0, 1) := by decide +kernel
theorem dX10_count_122 : decode cX10_count 122 = .ok (.getfield 32, 3) := by decide +kernel
theorem dX10_count_125 : decode cX10_count 125 = .ok (.iload_n 3, 1) := by decide +kernel
theorem dX10_count_126 : decode cX10_count 126 = .ok (.iaload, 1) := by decide +kernel
theorem dX10_count_127 : decode cX10_count 127 = .ok (.iconst (-1), 1) := by decide +kernel
theorem dX10_count_128 : decode cX10_count 128 = .ok (.if_icmp .ne 7, 3) := by decide +kernel
theorem dX10_count_131 : decode cX10_count 131 = .ok (.iconst 0, 1) := by decide +kernel
theorem dX10_count_132 : decode cX10_count 132 = .ok (.goto 9, 3) := by decide +kernel
theorem dX10_count_135 : decode cX10_count 135 = .ok (.aload_n 0, 1) := by decide +kernel
theorem dX10_count_136 : decode cX10_count 136 = .ok (.getfield 35, 3) := by decide +kernel
theorem dX10_count_139 : decode cX10_count 139 = .ok (.iload_n 3, 1) := by decide +kernel
theorem dX10_count_140 : decode cX10_count 140 = .ok (.iaload, 1) := by decide +kernel
theorem dX10_count_141 : decode cX10_count 141 = .ok (.iadd, 1) := by decide +kernel
theorem dX10_count_142 : decode cX10_count 142 = .ok (.istore_n 2, 1) := by decide +kernel
theorem dX10_count_143 : decode cX10_count 143 = .ok (.iinc 3 1, 3) := by decide +kernel
theorem dX10_count_146 : decode cX10_count 146 = .ok (.goto (-32), 3) := by decide +kernel
theorem dX10_count_149 : decode cX10_count 149 = .ok (.iload_n 2, 1) := by decide +kernel
theorem dX10_count_150 : decode cX10_count 150 = .ok (.ireturn, 1) := by decide +kernel
theorem dX10_count_151 : decode cX10_count 151 = .ok (.aload_n 0, 1) := by decide +kernel
theorem dX10_count_152 : decode cX10_count 152 = .ok (.getfield 141, 3) := by decide +kernel
theorem dX10_count_155 : decode cX10_count 155 = .ok (.ireturn, 1) := by decide +kernel
theorem dX10_count_156 : decode cX10_count 156 = .ok (.aload_n 0, 1) := by decide +kernel
theorem dX10_count_157 : decode cX10_count 157 = .ok (.getfield 210, 3) := by decide +kernel
theorem dX10_count_160 : decode cX10_count 160 = .ok (.ireturn, 1) := by decide +kernel
theorem dX10_count_161 : decode cX10_count 161 = .ok (.bipush (-3), 2) := by decide +kernel
theorem dX10_count_163 : decode cX10_count 163 = .ok (.ireturn, 1) := by decide +kernel
