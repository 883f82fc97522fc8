set_option maxRecDepth 20000 in
theorem dqX10_lastOf_p130 : dz_rn 0 (cX10_lastOf.data.toList.drop 0) [(0, 3), (1, 1), (0, 8), (1, 1), (1, 0), (0, 4), (3, 0), (4, 4), (0, 4), (3, 0), (0, 15), (1, 0), (0, 23), (0, 10)] = some [(0, .iload_n 3, 1), (1, .istore 4, 2), (3, .iconst 0, 1), (4, .istore 5, 2), (6, .iload 5, 2), (8, .aload_n 0, 1), (9, .getfield 210, 3), (12, .if_icmp .ge 55, 3), (15, .aload_n 0, 1), (16, .getfield 68, 3), (19, .iconst 3, 1), (20, .iload 5, 2), (22, .imul, 1), (23, .iaload, 1)] := by decide +kernel
theorem dX10_lastOf_0 : decode cX10_lastOf 0 = .ok (.iload_n 3, 1) := dz_at dqX10_lastOf_p130 0 rfl
theorem dX10_lastOf_1 : decode cX10_lastOf 1 = .ok (.istore 4, 2) := dz_at dqX10_lastOf_p130 1 rfl
theorem dX10_lastOf_3 : decode cX10_lastOf 3 = .ok (.iconst 0, 1) := dz_at dqX10_lastOf_p130 2 rfl
theorem dX10_lastOf_4 : decode cX10_lastOf 4 = .ok (.istore 5, 2) := dz_at dqX10_lastOf_p130 3 rfl
theorem dX10_lastOf_6 : decode cX10_lastOf 6 = .ok (.iload 5, 2) := dz_at dqX10_lastOf_p130 4 rfl
theorem dX10_lastOf_8 : decode cX10_lastOf 8 = .ok (.aload_n 0, 1) := dz_at dqX10_lastOf_p130 5 rfl
theorem dX10_lastOf_9 : decode cX10_lastOf 9 = .ok (.getfield 210, 3) := dz_at dqX10_lastOf_p130 6 rfl
theorem dX10_lastOf_12 : decode cX10_lastOf 12 = .ok (.if_icmp .ge 55, 3) := dz_at dqX10_lastOf_p130 7 rfl
theorem dX10_lastOf_15 : decode cX10_lastOf 15 = .ok (.aload_n 0, 1) := dz_at dqX10_lastOf_p130 8 rfl
theorem dX10_lastOf_16 : decode cX10_lastOf 16 = .ok (.getfield 68, 3) := dz_at dqX10_lastOf_p130 9 rfl
theorem dX10_lastOf_19 : decode cX10_lastOf 19 = .ok (.iconst 3, 1) := dz_at dqX10_lastOf_p130 10 rfl
theorem dX10_lastOf_20 : decode cX10_lastOf 20 = .ok (.iload 5, 2) := dz_at dqX10_lastOf_p130 11 rfl
theorem dX10_lastOf_22 : decode cX10_lastOf 22 = .ok (.imul, 1) := dz_at dqX10_lastOf_p130 12 rfl
theorem dX10_lastOf_23 : decode cX10_lastOf 23 = .ok (.iaload, 1) := dz_at dqX10_lastOf_p130 13 rfl
set_option maxRecDepth 20000 in
theorem dqX10_lastOf_p131 : dz_rn 24 (cX10_lastOf.data.toList.drop 24) [(0, 1), (4, 2), (0, 4), (3, 0), (0, 15), (1, 0), (0, 23), (0, 9), (0, 11), (0, 10), (0, 2), (4, 2), (0, 4), (3, 0)] = some [(24, .iload_n 1, 1), (25, .if_icmp .ne 32, 3), (28, .aload_n 0, 1), (29, .getfield 68, 3), (32, .iconst 3, 1), (33, .iload 5, 2), (35, .imul, 1), (36, .iconst 1, 1), (37, .iadd, 1), (38, .iaload, 1), (39, .iload_n 2, 1), (40, .if_icmp .ne 17, 3), (43, .aload_n 0, 1), (44, .getfield 68, 3)] := by decide +kernel
theorem dX10_lastOf_24 : decode cX10_lastOf 24 = .ok (.iload_n 1, 1) := dz_at dqX10_lastOf_p131 0 rfl
theorem dX10_lastOf_25 : decode cX10_lastOf 25 = .ok (.if_icmp .ne 32, 3) := dz_at dqX10_lastOf_p131 1 rfl
theorem dX10_lastOf_28 : decode cX10_lastOf 28 = .ok (.aload_n 0, 1) := dz_at dqX10_lastOf_p131 2 rfl
theorem dX10_lastOf_29 : decode cX10_lastOf 29 = .ok (.getfield 68, 3) := dz_at dqX10_lastOf_p131 3 rfl
theorem dX10_lastOf_32 : decode cX10_lastOf 32 = .ok (.iconst 3, 1) := dz_at dqX10_lastOf_p131 4 rfl
theorem dX10_lastOf_33 : decode cX10_lastOf 33 = .ok (.iload 5, 2) := dz_at dqX10_lastOf_p131 5 rfl
theorem dX10_lastOf_35 : decode cX10_lastOf 35 = .ok (.imul, 1) := dz_at dqX10_lastOf_p131 6 rfl
theorem dX10_lastOf_36 : decode cX10_lastOf 36 = .ok (.iconst 1, 1) := dz_at dqX10_lastOf_p131 7 rfl
theorem dX10_lastOf_37 : decode cX10_lastOf 37 = .ok (.iadd, 1) := dz_at dqX10_lastOf_p131 8 rfl
theorem dX10_lastOf_38 : decode cX10_lastOf 38 = .ok (.iaload, 1) := dz_at dqX10_lastOf_p131 9 rfl
theorem dX10_lastOf_39 : decode cX10_lastOf 39 = .ok (.iload_n 2, 1) := dz_at dqX10_lastOf_p131 10 rfl
theorem dX10_lastOf_40 : decode cX10_lastOf 40 = .ok (.if_icmp .ne 17, 3) := dz_at dqX10_lastOf_p131 11 rfl
theorem dX10_lastOf_43 : decode cX10_lastOf 43 = .ok (.aload_n 0, 1) := dz_at dqX10_lastOf_p131 12 rfl
theorem dX10_lastOf_44 : decode cX10_lastOf 44 = .ok (.getfield 68, 3) := dz_at dqX10_lastOf_p131 13 rfl
set_option maxRecDepth 20000 in
theorem dqX10_lastOf_p132 : dz_rn 47 (cX10_lastOf.data.toList.drop 47) [(0, 15), (1, 0), (0, 23), (0, 14), (0, 11), (0, 10), (4, 0), (1, 0), (1, 1), (5, 0), (4, 0), (1, 0), (0, 12)] = some [(47, .iconst 3, 1), (48, .iload 5, 2), (50, .imul, 1), (51, .iconst 2, 1), (52, .iadd, 1), (53, .iaload, 1), (54, .goto 5, 3), (57, .iload 4, 2), (59, .istore 4, 2), (61, .iinc 5 1, 3), (64, .goto (-58), 3), (67, .iload 4, 2), (69, .ireturn, 1)] := by decide +kernel
theorem dX10_lastOf_47 : decode cX10_lastOf 47 = .ok (.iconst 3, 1) := dz_at dqX10_lastOf_p132 0 rfl
theorem dX10_lastOf_48 : decode cX10_lastOf 48 = .ok (.iload 5, 2) := dz_at dqX10_lastOf_p132 1 rfl
theorem dX10_lastOf_50 : decode cX10_lastOf 50 = .ok (.imul, 1) := dz_at dqX10_lastOf_p132 2 rfl
theorem dX10_lastOf_51 : decode cX10_lastOf 51 = .ok (.iconst 2, 1) := dz_at dqX10_lastOf_p132 3 rfl
theorem dX10_lastOf_52 : decode cX10_lastOf 52 = .ok (.iadd, 1) := dz_at dqX10_lastOf_p132 4 rfl
theorem dX10_lastOf_53 : decode cX10_lastOf 53 = .ok (.iaload, 1) := dz_at dqX10_lastOf_p132 5 rfl
theorem dX10_lastOf_54 : decode cX10_lastOf 54 = .ok (.goto 5, 3) := dz_at dqX10_lastOf_p132 6 rfl
theorem dX10_lastOf_57 : decode cX10_lastOf 57 = .ok (.iload 4, 2) := dz_at dqX10_lastOf_p132 7 rfl
theorem dX10_lastOf_59 : decode cX10_lastOf 59 = .ok (.istore 4, 2) := dz_at dqX10_lastOf_p132 8 rfl
theorem dX10_lastOf_61 : decode cX10_lastOf 61 = .ok (.iinc 5 1, 3) := dz_at dqX10_lastOf_p132 9 rfl
theorem dX10_lastOf_64 : decode cX10_lastOf 64 = .ok (.goto (-58), 3) := dz_at dqX10_lastOf_p132 10 rfl
theorem dX10_lastOf_67 : decode cX10_lastOf 67 = .ok (.iload 4, 2) := dz_at dqX10_lastOf_p132 11 rfl
theorem dX10_lastOf_69 : decode cX10_lastOf 69 = .ok (.ireturn, 1) := dz_at dqX10_lastOf_p132 12 rfl
set_option maxRecDepth 20000 in
theorem dqX10_standIn_p130 : dz_rn 0 (cX10_standIn.data.toList.drop 0) [(0, 8), (0, 20), (2, 0), (0, 1), (0, 23), (0, 21), (0, 3), (2, 0), (0, 1), (0, 23), (2, 0), (0, 11), (4, 4), (0, 2)] = some [(0, .iconst 0, 1), (1, .istore_n 2, 1), (2, .bipush 6, 2), (4, .iload_n 1, 1), (5, .imul, 1), (6, .istore_n 3, 1), (7, .iload_n 3, 1), (8, .bipush 6, 2), (10, .iload_n 1, 1), (11, .imul, 1), (12, .bipush 6, 2), (14, .iadd, 1), (15, .if_icmp .ge 27, 3), (18, .iload_n 2, 1)] := by decide +kernel
theorem dX10_standIn_0 : decode cX10_standIn 0 = .ok (.iconst 0, 1) := dz_at dqX10_standIn_p130 0 rfl
theorem dX10_standIn_1 : decode cX10_standIn 1 = .ok (.istore_n 2, 1) := dz_at dqX10_standIn_p130 1 rfl
theorem dX10_standIn_2 : decode cX10_standIn 2 = .ok (.bipush 6, 2) := dz_at dqX10_standIn_p130 2 rfl
theorem dX10_standIn_4 : decode cX10_standIn 4 = .ok (.iload_n 1, 1) := dz_at dqX10_standIn_p130 3 rfl
theorem dX10_standIn_5 : decode cX10_standIn 5 = .ok (.imul, 1) := dz_at dqX10_standIn_p130 4 rfl
theorem dX10_standIn_6 : decode cX10_standIn 6 = .ok (.istore_n 3, 1) := dz_at dqX10_standIn_p130 5 rfl
theorem dX10_standIn_7 : decode cX10_standIn 7 = .ok (.iload_n 3, 1) := dz_at dqX10_standIn_p130 6 rfl
theorem dX10_standIn_8 : decode cX10_standIn 8 = .ok (.bipush 6, 2) := dz_at dqX10_standIn_p130 7 rfl
theorem dX10_standIn_10 : decode cX10_standIn 10 = .ok (.iload_n 1, 1) := dz_at dqX10_standIn_p130 8 rfl
theorem dX10_standIn_11 : decode cX10_standIn 11 = .ok (.imul, 1) := dz_at dqX10_standIn_p130 9 rfl
theorem dX10_standIn_12 : decode cX10_standIn 12 = .ok (.bipush 6, 2) := dz_at dqX10_standIn_p130 10 rfl
theorem dX10_standIn_14 : decode cX10_standIn 14 = .ok (.iadd, 1) := dz_at dqX10_standIn_p130 11 rfl
theorem dX10_standIn_15 : decode cX10_standIn 15 = .ok (.if_icmp .ge 27, 3) := dz_at dqX10_standIn_p130 12 rfl
theorem dX10_standIn_18 : decode cX10_standIn 18 = .ok (.iload_n 2, 1) := dz_at dqX10_standIn_p130 13 rfl
set_option maxRecDepth 20000 in
theorem dqX10_standIn_p131 : dz_rn 19 (cX10_standIn.data.toList.drop 19) [(0, 4), (3, 0), (0, 3), (0, 10), (0, 13), (4, 2), (0, 8), (4, 0), (0, 9), (0, 11), (0, 20), (5, 0), (4, 0), (0, 2)] = some [(19, .aload_n 0, 1), (20, .getfield 32, 3), (23, .iload_n 3, 1), (24, .iaload, 1), (25, .iconst (-1), 1), (26, .if_icmp .ne 7, 3), (29, .iconst 0, 1), (30, .goto 4, 3), (33, .iconst 1, 1), (34, .iadd, 1), (35, .istore_n 2, 1), (36, .iinc 3 1, 3), (39, .goto (-32), 3), (42, .iload_n 2, 1)] := by decide +kernel
theorem dX10_standIn_19 : decode cX10_standIn 19 = .ok (.aload_n 0, 1) := dz_at dqX10_standIn_p131 0 rfl
theorem dX10_standIn_20 : decode cX10_standIn 20 = .ok (.getfield 32, 3) := dz_at dqX10_standIn_p131 1 rfl
theorem dX10_standIn_23 : decode cX10_standIn 23 = .ok (.iload_n 3, 1) := dz_at dqX10_standIn_p131 2 rfl
theorem dX10_standIn_24 : decode cX10_standIn 24 = .ok (.iaload, 1) := dz_at dqX10_standIn_p131 3 rfl
theorem dX10_standIn_25 : decode cX10_standIn 25 = .ok (.iconst (-1), 1) := dz_at dqX10_standIn_p131 4 rfl
theorem dX10_standIn_26 : decode cX10_standIn 26 = .ok (.if_icmp .ne 7, 3) := dz_at dqX10_standIn_p131 5 rfl
theorem dX10_standIn_29 : decode cX10_standIn 29 = .ok (.iconst 0, 1) := dz_at dqX10_standIn_p131 6 rfl
theorem dX10_standIn_30 : decode cX10_standIn 30 = .ok (.goto 4, 3) := dz_at dqX10_standIn_p131 7 rfl
theorem dX10_standIn_33 : decode cX10_standIn 33 = .ok (.iconst 1, 1) := dz_at dqX10_standIn_p131 8 rfl
theorem dX10_standIn_34 : decode cX10_standIn 34 = .ok (.iadd, 1) := dz_at dqX10_standIn_p131 9 rfl
theorem dX10_standIn_35 : decode cX10_standIn 35 = .ok (.istore_n 2, 1) := dz_at dqX10_standIn_p131 10 rfl
theorem dX10_standIn_36 : decode cX10_standIn 36 = .ok (.iinc 3 1, 3) := dz_at dqX10_standIn_p131 11 rfl
theorem dX10_standIn_39 : decode cX10_standIn 39 = .ok (.goto (-32), 3) := dz_at dqX10_standIn_p131 12 rfl
theorem dX10_standIn_42 : decode cX10_standIn 42 = .ok (.iload_n 2, 1) := dz_at dqX10_standIn_p131 13 rfl
theorem dX10_standIn_43 : decode cX10_standIn 43 = .ok (.ireturn, 1) := by decide +kernel
set_option maxRecDepth 20000 in
theorem ggX10_isTooLike_X10_likeness : GoodIn wsX10_isTooLike wsX10_likeness := goodIn_r _ [6, 7, 8, 9, 10, 11, 12, 13, 14, 15, 16, 17, 18, 19, 20, 21, 22, 23, 24, 25, 26, 27, 28, 29, 30, 31, 32, 33, 34, 35, 36, 37, 38, 39, 40, 41, 42, 43, 44, 45, 46] rfl (by decide +kernel)
set_option maxRecDepth 20000 in
theorem gX10_isTooLike_X10_likeness : GoodIn wsX10_isTooLike (wsV RX10 115 RX10 yX10_likeness wsX10_likeness) := goodIn_app (goodIn_of _ (by decide +kernel)) ggX10_isTooLike_X10_likeness
set_option maxRecDepth 20000 in
theorem dqX10_isTooLike_p130 : dz_rn 0 (cX10_isTooLike.data.toList.drop 0) [(0, 4), (3, 0), (0, 2), (0, 10), (0, 13), (4, 1), (0, 4), (0, 4), (3, 0), (0, 2), (0, 10), (0, 1), (3, 1), (0, 3)] = some [(0, .aload_n 0, 1), (1, .getfield 32, 3), (4, .iload_n 2, 1), (5, .iaload, 1), (6, .iconst (-1), 1), (7, .if_icmp .eq 22, 3), (10, .aload_n 0, 1), (11, .aload_n 0, 1), (12, .getfield 32, 3), (15, .iload_n 2, 1), (16, .iaload, 1), (17, .iload_n 1, 1), (18, .invokevirtual 115, 3), (21, .iload_n 3, 1)] := by decide +kernel
theorem dX10_isTooLike_0 : decode cX10_isTooLike 0 = .ok (.aload_n 0, 1) := dz_at dqX10_isTooLike_p130 0 rfl
theorem dX10_isTooLike_1 : decode cX10_isTooLike 1 = .ok (.getfield 32, 3) := dz_at dqX10_isTooLike_p130 1 rfl
theorem dX10_isTooLike_4 : decode cX10_isTooLike 4 = .ok (.iload_n 2, 1) := dz_at dqX10_isTooLike_p130 2 rfl
theorem dX10_isTooLike_5 : decode cX10_isTooLike 5 = .ok (.iaload, 1) := dz_at dqX10_isTooLike_p130 3 rfl
theorem dX10_isTooLike_6 : decode cX10_isTooLike 6 = .ok (.iconst (-1), 1) := dz_at dqX10_isTooLike_p130 4 rfl
theorem dX10_isTooLike_7 : decode cX10_isTooLike 7 = .ok (.if_icmp .eq 22, 3) := dz_at dqX10_isTooLike_p130 5 rfl
theorem dX10_isTooLike_10 : decode cX10_isTooLike 10 = .ok (.aload_n 0, 1) := dz_at dqX10_isTooLike_p130 6 rfl
theorem dX10_isTooLike_11 : decode cX10_isTooLike 11 = .ok (.aload_n 0, 1) := dz_at dqX10_isTooLike_p130 7 rfl
theorem dX10_isTooLike_12 : decode cX10_isTooLike 12 = .ok (.getfield 32, 3) := dz_at dqX10_isTooLike_p130 8 rfl
theorem dX10_isTooLike_15 : decode cX10_isTooLike 15 = .ok (.iload_n 2, 1) := dz_at dqX10_isTooLike_p130 9 rfl
theorem dX10_isTooLike_16 : decode cX10_isTooLike 16 = .ok (.iaload, 1) := dz_at dqX10_isTooLike_p130 10 rfl
theorem dX10_isTooLike_17 : decode cX10_isTooLike 17 = .ok (.iload_n 1, 1) := dz_at dqX10_isTooLike_p130 11 rfl
theorem dX10_isTooLike_18 : decode cX10_isTooLike 18 = .ok (.invokevirtual 115, 3) := dz_at dqX10_isTooLike_p130 12 rfl
theorem dX10_isTooLike_21 : decode cX10_isTooLike 21 = .ok (.iload_n 3, 1) := dz_at dqX10_isTooLike_p130 13 rfl
set_option maxRecDepth 20000 in
theorem dqX10_isTooLike_p131 : dz_rn 22 (cX10_isTooLike.data.toList.drop 22) [(4, 6), (0, 9), (4, 0), (0, 8), (0, 12)] = some [(22, .if_icmp .le 7, 3), (25, .iconst 1, 1), (26, .goto 4, 3), (29, .iconst 0, 1), (30, .ireturn, 1)] := by decide +kernel
theorem dX10_isTooLike_22 : decode cX10_isTooLike 22 = .ok (.if_icmp .le 7, 3) := dz_at dqX10_isTooLike_p131 0 rfl
theorem dX10_isTooLike_25 : decode cX10_isTooLike 25 = .ok (.iconst 1, 1) := dz_at dqX10_isTooLike_p131 1 rfl
theorem dX10_isTooLike_26 : decode cX10_isTooLike 26 = .ok (.goto 4, 3) := dz_at dqX10_isTooLike_p131 2 rfl
theorem dX10_isTooLike_29 : decode cX10_isTooLike 29 = .ok (.iconst 0, 1) := dz_at dqX10_isTooLike_p131 3 rfl
theorem dX10_isTooLike_30 : decode cX10_isTooLike 30 = .ok (.ireturn, 1) := dz_at dqX10_isTooLike_p131 4 rfl
set_option maxRecDepth 20000 in
theorem ggX10_bars_X10_isThing : GoodIn wsX10_bars wsX10_isThing := goodIn_r _ [6, 7, 8, 5, 9] rfl (by decide +kernel)
set_option maxRecDepth 20000 in
theorem gX10_bars_X10_isThing : GoodIn wsX10_bars (va_wsS RX10 112 yX10_isThing wsX10_isThing) := goodIn_app (goodIn_of _ (by decide +kernel)) ggX10_bars_X10_isThing
set_option maxRecDepth 20000 in
theorem ggX10_bars_X10_isCorner : GoodIn wsX10_bars wsX10_isCorner := goodIn_r _ [12, 7, 8, 5, 9] rfl (by decide +kernel)
set_option maxRecDepth 20000 in
theorem gX10_bars_X10_isCorner : GoodIn wsX10_bars (va_wsS RX10 118 yX10_isCorner wsX10_isCorner) := goodIn_app (goodIn_of _ (by decide +kernel)) ggX10_bars_X10_isCorner
set_option maxRecDepth 20000 in
theorem ggX10_bars_X10_standIn : GoodIn wsX10_bars wsX10_standIn := goodIn_r _ [16, 17, 33, 34, 35, 36, 37, 38, 39, 40, 41, 42, 43, 44, 45, 46, 47, 48, 49, 50, 51, 52, 53, 54, 55, 56, 57, 58, 59, 60, 61, 62, 63, 64, 65, 66, 67, 68, 69, 70, 71] rfl (by decide +kernel)
set_option maxRecDepth 20000 in
theorem gX10_bars_X10_standIn : GoodIn wsX10_bars (wsV RX10 213 RX10 yX10_standIn wsX10_standIn) := goodIn_app (goodIn_of _ (by decide +kernel)) ggX10_bars_X10_standIn
set_option maxRecDepth 20000 in
theorem ggX10_bars_X10_lastOf : GoodIn wsX10_bars wsX10_lastOf := goodIn_r _ [21, 22, 23, 33, 34, 35, 36, 37, 38, 39, 40, 41, 42, 43, 44, 45, 46, 47, 48, 49, 50, 51, 52, 53, 54, 55, 56, 57, 58, 59, 60, 61, 62, 63, 64, 65, 66, 67, 68, 69, 70, 71] rfl (by decide +kernel)
set_option maxRecDepth 20000 in
theorem gX10_bars_X10_lastOf : GoodIn wsX10_bars (wsV RX10 216 RX10 yX10_lastOf wsX10_lastOf) := goodIn_app (goodIn_of _ (by decide +kernel)) ggX10_bars_X10_lastOf
set_option maxRecDepth 20000 in
theorem ggX10_bars_X10_isTooLike : GoodIn wsX10_bars wsX10_isTooLike := goodIn_r _ [27, 17, 28, 29, 30, 5, 31, 32, 33, 34, 35, 36, 37, 38, 39, 40, 41, 42, 43, 44, 45, 46, 47, 48, 49, 50, 51, 52, 53, 54, 55, 56, 57, 58, 59, 60, 61, 62, 63, 64, 65, 66, 67, 68, 69, 70, 71] rfl (by decide +kernel)
set_option maxRecDepth 20000 in
theorem gX10_bars_X10_isTooLike : GoodIn wsX10_bars (wsV RX10 220 RX10 yX10_isTooLike wsX10_isTooLike) := goodIn_app (goodIn_of _ (by decide +kernel)) ggX10_bars_X10_isTooLike
set_option maxRecDepth 20000 in
theorem dqX10_bars_p130 : dz_rn 0 (cX10_bars.data.toList.drop 0) [(0, 1), (3, 2), (4, 7), (0, 2), (3, 2), (4, 8), (2, 0), (0, 12), (0, 4), (0, 2), (2, 0), (0, 27), (3, 1), (0, 4)] = some [(0, .iload_n 1, 1), (1, .invokestatic 112, 3), (4, .ifCond .eq 10, 3), (7, .iload_n 2, 1), (8, .invokestatic 118, 3), (11, .ifCond .ne 6, 3), (14, .bipush (-2), 2), (16, .ireturn, 1), (17, .aload_n 0, 1), (18, .iload_n 2, 1), (19, .bipush 6, 2), (21, .idiv, 1), (22, .invokevirtual 213, 3), (25, .aload_n 0, 1)] := by decide +kernel
theorem dX10_bars_0 : decode cX10_bars 0 = .ok (.iload_n 1, 1) := dz_at dqX10_bars_p130 0 rfl
theorem dX10_bars_1 : decode cX10_bars 1 = .ok (.invokestatic 112, 3) := dz_at dqX10_bars_p130 1 rfl
theorem dX10_bars_4 : decode cX10_bars 4 = .ok (.ifCond .eq 10, 3) := dz_at dqX10_bars_p130 2 rfl
theorem dX10_bars_7 : decode cX10_bars 7 = .ok (.iload_n 2, 1) := dz_at dqX10_bars_p130 3 rfl
theorem dX10_bars_8 : decode cX10_bars 8 = .ok (.invokestatic 118, 3) := dz_at dqX10_bars_p130 4 rfl
theorem dX10_bars_11 : decode cX10_bars 11 = .ok (.ifCond .ne 6, 3) := dz_at dqX10_bars_p130 5 rfl
theorem dX10_bars_14 : decode cX10_bars 14 = .ok (.bipush (-2), 2) := dz_at dqX10_bars_p130 6 rfl
theorem dX10_bars_16 : decode cX10_bars 16 = .ok (.ireturn, 1) := dz_at dqX10_bars_p130 7 rfl
theorem dX10_bars_17 : decode cX10_bars 17 = .ok (.aload_n 0, 1) := dz_at dqX10_bars_p130 8 rfl
theorem dX10_bars_18 : decode cX10_bars 18 = .ok (.iload_n 2, 1) := dz_at dqX10_bars_p130 9 rfl
theorem dX10_bars_19 : decode cX10_bars 19 = .ok (.bipush 6, 2) := dz_at dqX10_bars_p130 10 rfl
theorem dX10_bars_21 : decode cX10_bars 21 = .ok (.idiv, 1) := dz_at dqX10_bars_p130 11 rfl
theorem dX10_bars_22 : decode cX10_bars 22 = .ok (.invokevirtual 213, 3) := dz_at dqX10_bars_p130 12 rfl
theorem dX10_bars_25 : decode cX10_bars 25 = .ok (.aload_n 0, 1) := dz_at dqX10_bars_p130 13 rfl
set_option maxRecDepth 20000 in
theorem dqX10_bars_p131 : dz_rn 26 (cX10_bars.data.toList.drop 26) [(0, 8), (0, 2), (2, 0), (0, 27), (2, 0), (3, 1), (4, 3), (0, 9), (4, 0), (0, 8), (0, 21), (0, 4), (0, 14), (0, 8)] = some [(26, .iconst 0, 1), (27, .iload_n 2, 1), (28, .bipush 6, 2), (30, .idiv, 1), (31, .bipush 100, 2), (33, .invokevirtual 216, 3), (36, .if_icmp .lt 7, 3), (39, .iconst 1, 1), (40, .goto 4, 3), (43, .iconst 0, 1), (44, .istore_n 3, 1), (45, .aload_n 0, 1), (46, .iconst 2, 1), (47, .iconst 0, 1)] := by decide +kernel
theorem dX10_bars_26 : decode cX10_bars 26 = .ok (.iconst 0, 1) := dz_at dqX10_bars_p131 0 rfl
theorem dX10_bars_27 : decode cX10_bars 27 = .ok (.iload_n 2, 1) := dz_at dqX10_bars_p131 1 rfl
theorem dX10_bars_28 : decode cX10_bars 28 = .ok (.bipush 6, 2) := dz_at dqX10_bars_p131 2 rfl
theorem dX10_bars_30 : decode cX10_bars 30 = .ok (.idiv, 1) := dz_at dqX10_bars_p131 3 rfl
theorem dX10_bars_31 : decode cX10_bars 31 = .ok (.bipush 100, 2) := dz_at dqX10_bars_p131 4 rfl
theorem dX10_bars_33 : decode cX10_bars 33 = .ok (.invokevirtual 216, 3) := dz_at dqX10_bars_p131 5 rfl
theorem dX10_bars_36 : decode cX10_bars 36 = .ok (.if_icmp .lt 7, 3) := dz_at dqX10_bars_p131 6 rfl
theorem dX10_bars_39 : decode cX10_bars 39 = .ok (.iconst 1, 1) := dz_at dqX10_bars_p131 7 rfl
theorem dX10_bars_40 : decode cX10_bars 40 = .ok (.goto 4, 3) := dz_at dqX10_bars_p131 8 rfl
theorem dX10_bars_43 : decode cX10_bars 43 = .ok (.iconst 0, 1) := dz_at dqX10_bars_p131 9 rfl
theorem dX10_bars_44 : decode cX10_bars 44 = .ok (.istore_n 3, 1) := dz_at dqX10_bars_p131 10 rfl
theorem dX10_bars_45 : decode cX10_bars 45 = .ok (.aload_n 0, 1) := dz_at dqX10_bars_p131 11 rfl
theorem dX10_bars_46 : decode cX10_bars 46 = .ok (.iconst 2, 1) := dz_at dqX10_bars_p131 12 rfl
theorem dX10_bars_47 : decode cX10_bars 47 = .ok (.iconst 0, 1) := dz_at dqX10_bars_p131 13 rfl
set_option maxRecDepth 20000 in
theorem dqX10_bars_p132 : dz_rn 48 (cX10_bars.data.toList.drop 48) [(2, 0), (3, 1), (1, 1), (0, 3), (0, 4), (3, 0), (0, 2), (0, 10), (0, 13), (4, 1), (0, 4), (3, 0), (0, 4), (3, 0)] = some [(48, .bipush 100, 2), (50, .invokevirtual 216, 3), (53, .istore 4, 2), (55, .iload_n 3, 1), (56, .aload_n 0, 1), (57, .getfield 44, 3), (60, .iload_n 2, 1), (61, .iaload, 1), (62, .iconst (-1), 1), (63, .if_icmp .eq 28, 3), (66, .aload_n 0, 1), (67, .getfield 125, 3), (70, .aload_n 0, 1), (71, .getfield 44, 3)] := by decide +kernel
theorem dX10_bars_48 : decode cX10_bars 48 = .ok (.bipush 100, 2) := dz_at dqX10_bars_p132 0 rfl
theorem dX10_bars_50 : decode cX10_bars 50 = .ok (.invokevirtual 216, 3) := dz_at dqX10_bars_p132 1 rfl
theorem dX10_bars_53 : decode cX10_bars 53 = .ok (.istore 4, 2) := dz_at dqX10_bars_p132 2 rfl
theorem dX10_bars_55 : decode cX10_bars 55 = .ok (.iload_n 3, 1) := dz_at dqX10_bars_p132 3 rfl
theorem dX10_bars_56 : decode cX10_bars 56 = .ok (.aload_n 0, 1) := dz_at dqX10_bars_p132 4 rfl
theorem dX10_bars_57 : decode cX10_bars 57 = .ok (.getfield 44, 3) := dz_at dqX10_bars_p132 5 rfl
theorem dX10_bars_60 : decode cX10_bars 60 = .ok (.iload_n 2, 1) := dz_at dqX10_bars_p132 6 rfl
theorem dX10_bars_61 : decode cX10_bars 61 = .ok (.iaload, 1) := dz_at dqX10_bars_p132 7 rfl
theorem dX10_bars_62 : decode cX10_bars 62 = .ok (.iconst (-1), 1) := dz_at dqX10_bars_p132 8 rfl
theorem dX10_bars_63 : decode cX10_bars 63 = .ok (.if_icmp .eq 28, 3) := dz_at dqX10_bars_p132 9 rfl
theorem dX10_bars_66 : decode cX10_bars 66 = .ok (.aload_n 0, 1) := dz_at dqX10_bars_p132 10 rfl
theorem dX10_bars_67 : decode cX10_bars 67 = .ok (.getfield 125, 3) := dz_at dqX10_bars_p132 11 rfl
theorem dX10_bars_70 : decode cX10_bars 70 = .ok (.aload_n 0, 1) := dz_at dqX10_bars_p132 12 rfl
theorem dX10_bars_71 : decode cX10_bars 71 = .ok (.getfield 44, 3) := dz_at dqX10_bars_p132 13 rfl
set_option maxRecDepth 20000 in
theorem dqX10_bars_p133 : dz_rn 74 (cX10_bars.data.toList.drop 74) [(0, 2), (0, 10), (0, 26), (0, 4), (0, 9), (0, 8), (0, 8), (3, 1), (4, 4), (0, 14), (4, 0), (0, 8), (0, 11), (0, 21)] = some [(74, .iload_n 2, 1), (75, .iaload, 1), (76, .isub, 1), (77, .aload_n 0, 1), (78, .iconst 1, 1), (79, .iconst 0, 1), (80, .iconst 0, 1), (81, .invokevirtual 216, 3), (84, .if_icmp .ge 7, 3), (87, .iconst 2, 1), (88, .goto 4, 3), (91, .iconst 0, 1), (92, .iadd, 1), (93, .istore_n 3, 1)] := by decide +kernel
theorem dX10_bars_74 : decode cX10_bars 74 = .ok (.iload_n 2, 1) := dz_at dqX10_bars_p133 0 rfl
theorem dX10_bars_75 : decode cX10_bars 75 = .ok (.iaload, 1) := dz_at dqX10_bars_p133 1 rfl
theorem dX10_bars_76 : decode cX10_bars 76 = .ok (.isub, 1) := dz_at dqX10_bars_p133 2 rfl
theorem dX10_bars_77 : decode cX10_bars 77 = .ok (.aload_n 0, 1) := dz_at dqX10_bars_p133 3 rfl
theorem dX10_bars_78 : decode cX10_bars 78 = .ok (.iconst 1, 1) := dz_at dqX10_bars_p133 4 rfl
theorem dX10_bars_79 : decode cX10_bars 79 = .ok (.iconst 0, 1) := dz_at dqX10_bars_p133 5 rfl
theorem dX10_bars_80 : decode cX10_bars 80 = .ok (.iconst 0, 1) := dz_at dqX10_bars_p133 6 rfl
theorem dX10_bars_81 : decode cX10_bars 81 = .ok (.invokevirtual 216, 3) := dz_at dqX10_bars_p133 7 rfl
theorem dX10_bars_84 : decode cX10_bars 84 = .ok (.if_icmp .ge 7, 3) := dz_at dqX10_bars_p133 8 rfl
theorem dX10_bars_87 : decode cX10_bars 87 = .ok (.iconst 2, 1) := dz_at dqX10_bars_p133 9 rfl
theorem dX10_bars_88 : decode cX10_bars 88 = .ok (.goto 4, 3) := dz_at dqX10_bars_p133 10 rfl
theorem dX10_bars_91 : decode cX10_bars 91 = .ok (.iconst 0, 1) := dz_at dqX10_bars_p133 11 rfl
theorem dX10_bars_92 : decode cX10_bars 92 = .ok (.iadd, 1) := dz_at dqX10_bars_p133 12 rfl
theorem dX10_bars_93 : decode cX10_bars 93 = .ok (.istore_n 3, 1) := dz_at dqX10_bars_p133 13 rfl
set_option maxRecDepth 20000 in
theorem dqX10_bars_p134 : dz_rn 94 (cX10_bars.data.toList.drop 94) [(0, 2), (2, 0), (0, 30), (4, 12), (0, 4), (0, 1), (0, 2), (0, 9), (0, 26), (1, 0), (3, 1), (4, 8), (0, 2), (2, 0)] = some [(94, .iload_n 2, 1), (95, .bipush 6, 2), (97, .irem, 1), (98, .ifCond .le 16, 3), (101, .aload_n 0, 1), (102, .iload_n 1, 1), (103, .iload_n 2, 1), (104, .iconst 1, 1), (105, .isub, 1), (106, .iload 4, 2), (108, .invokevirtual 220, 3), (111, .ifCond .ne 24, 3), (114, .iload_n 2, 1), (115, .bipush 6, 2)] := by decide +kernel
theorem dX10_bars_94 : decode cX10_bars 94 = .ok (.iload_n 2, 1) := dz_at dqX10_bars_p134 0 rfl
theorem dX10_bars_95 : decode cX10_bars 95 = .ok (.bipush 6, 2) := dz_at dqX10_bars_p134 1 rfl
theorem dX10_bars_97 : decode cX10_bars 97 = .ok (.irem, 1) := dz_at dqX10_bars_p134 2 rfl
theorem dX10_bars_98 : decode cX10_bars 98 = .ok (.ifCond .le 16, 3) := dz_at dqX10_bars_p134 3 rfl
theorem dX10_bars_101 : decode cX10_bars 101 = .ok (.aload_n 0, 1) := dz_at dqX10_bars_p134 4 rfl
theorem dX10_bars_102 : decode cX10_bars 102 = .ok (.iload_n 1, 1) := dz_at dqX10_bars_p134 5 rfl
theorem dX10_bars_103 : decode cX10_bars 103 = .ok (.iload_n 2, 1) := dz_at dqX10_bars_p134 6 rfl
theorem dX10_bars_104 : decode cX10_bars 104 = .ok (.iconst 1, 1) := dz_at dqX10_bars_p134 7 rfl
theorem dX10_bars_105 : decode cX10_bars 105 = .ok (.isub, 1) := dz_at dqX10_bars_p134 8 rfl
theorem dX10_bars_106 : decode cX10_bars 106 = .ok (.iload 4, 2) := dz_at dqX10_bars_p134 9 rfl
theorem dX10_bars_108 : decode cX10_bars 108 = .ok (.invokevirtual 220, 3) := dz_at dqX10_bars_p134 10 rfl
theorem dX10_bars_111 : decode cX10_bars 111 = .ok (.ifCond .ne 24, 3) := dz_at dqX10_bars_p134 11 rfl
theorem dX10_bars_114 : decode cX10_bars 114 = .ok (.iload_n 2, 1) := dz_at dqX10_bars_p134 12 rfl
theorem dX10_bars_115 : decode cX10_bars 115 = .ok (.bipush 6, 2) := dz_at dqX10_bars_p134 13 rfl
set_option maxRecDepth 20000 in
theorem dqX10_bars_p135 : dz_rn 117 (cX10_bars.data.toList.drop 117) [(0, 30), (0, 17), (4, 4), (0, 4), (0, 1), (0, 2), (0, 9), (0, 11), (1, 0), (3, 1), (4, 7), (0, 9), (4, 0), (0, 8)] = some [(117, .irem, 1), (118, .iconst 5, 1), (119, .if_icmp .ge 20, 3), (122, .aload_n 0, 1), (123, .iload_n 1, 1), (124, .iload_n 2, 1), (125, .iconst 1, 1), (126, .iadd, 1), (127, .iload 4, 2), (129, .invokevirtual 220, 3), (132, .ifCond .eq 7, 3), (135, .iconst 1, 1), (136, .goto 4, 3), (139, .iconst 0, 1)] := by decide +kernel
theorem dX10_bars_117 : decode cX10_bars 117 = .ok (.irem, 1) := dz_at dqX10_bars_p135 0 rfl
theorem dX10_bars_118 : decode cX10_bars 118 = .ok (.iconst 5, 1) := dz_at dqX10_bars_p135 1 rfl
theorem dX10_bars_119 : decode cX10_bars 119 = .ok (.if_icmp .ge 20, 3) := dz_at dqX10_bars_p135 2 rfl
theorem dX10_bars_122 : decode cX10_bars 122 = .ok (.aload_n 0, 1) := dz_at dqX10_bars_p135 3 rfl
theorem dX10_bars_123 : decode cX10_bars 123 = .ok (.iload_n 1, 1) := dz_at dqX10_bars_p135 4 rfl
theorem dX10_bars_124 : decode cX10_bars 124 = .ok (.iload_n 2, 1) := dz_at dqX10_bars_p135 5 rfl
theorem dX10_bars_125 : decode cX10_bars 125 = .ok (.iconst 1, 1) := dz_at dqX10_bars_p135 6 rfl
theorem dX10_bars_126 : decode cX10_bars 126 = .ok (.iadd, 1) := dz_at dqX10_bars_p135 7 rfl
theorem dX10_bars_127 : decode cX10_bars 127 = .ok (.iload 4, 2) := dz_at dqX10_bars_p135 8 rfl
theorem dX10_bars_129 : decode cX10_bars 129 = .ok (.invokevirtual 220, 3) := dz_at dqX10_bars_p135 9 rfl
theorem dX10_bars_132 : decode cX10_bars 132 = .ok (.ifCond .eq 7, 3) := dz_at dqX10_bars_p135 10 rfl
theorem dX10_bars_135 : decode cX10_bars 135 = .ok (.iconst 1, 1) := dz_at dqX10_bars_p135 11 rfl
theorem dX10_bars_136 : decode cX10_bars 136 = .ok (.goto 4, 3) := dz_at dqX10_bars_p135 12 rfl
theorem dX10_bars_139 : decode cX10_bars 139 = .ok (.iconst 0, 1) := dz_at dqX10_bars_p135 13 rfl
set_option maxRecDepth 20000 in
theorem dqX10_bars_p136 : dz_rn 140 (cX10_bars.data.toList.drop 140) [(1, 1), (0, 3), (1, 0), (4, 7), (0, 16), (4, 0), (0, 8), (0, 11), (0, 12)] = some [(140, .istore 5, 2), (142, .iload_n 3, 1), (143, .iload 5, 2), (145, .ifCond .eq 7, 3), (148, .iconst 4, 1), (149, .goto 4, 3), (152, .iconst 0, 1), (153, .iadd, 1), (154, .ireturn, 1)] := by decide +kernel
theorem dX10_bars_140 : decode cX10_bars 140 = .ok (.istore 5, 2) := dz_at dqX10_bars_p136 0 rfl
theorem dX10_bars_142 : decode cX10_bars 142 = .ok (.iload_n 3, 1) := dz_at dqX10_bars_p136 1 rfl
theorem dX10_bars_143 : decode cX10_bars 143 = .ok (.iload 5, 2) := dz_at dqX10_bars_p136 2 rfl
theorem dX10_bars_145 : decode cX10_bars 145 = .ok (.ifCond .eq 7, 3) := dz_at dqX10_bars_p136 3 rfl
theorem dX10_bars_148 : decode cX10_bars 148 = .ok (.iconst 4, 1) := dz_at dqX10_bars_p136 4 rfl
theorem dX10_bars_149 : decode cX10_bars 149 = .ok (.goto 4, 3) := dz_at dqX10_bars_p136 5 rfl
theorem dX10_bars_152 : decode cX10_bars 152 = .ok (.iconst 0, 1) := dz_at dqX10_bars_p136 6 rfl
theorem dX10_bars_153 : decode cX10_bars 153 = .ok (.iadd, 1) := dz_at dqX10_bars_p136 7 rfl
theorem dX10_bars_154 : decode cX10_bars 154 = .ok (.ireturn, 1) := dz_at dqX10_bars_p136 8 rfl
set_option maxRecDepth 20000 in
theorem ggX10_due_X10_lastOf : GoodIn wsX10_due wsX10_lastOf := goodIn_r _ [7, 8, 9, 10, 11, 12, 13, 14, 15, 16, 17, 18, 19, 20, 21, 22, 23, 24, 25, 26, 27, 28, 29, 30, 31, 32, 33, 34, 35, 36, 37, 38, 39, 40, 41, 42, 43, 44, 45, 46, 47, 48] rfl (by decide +kernel)
set_option maxRecDepth 20000 in
theorem gX10_due_X10_lastOf : GoodIn wsX10_due (wsV RX10 216 RX10 yX10_lastOf wsX10_lastOf) := goodIn_app (goodIn_of _ (by decide +kernel)) ggX10_due_X10_lastOf
set_option maxRecDepth 20000 in
theorem dqX10_due_p130 : dz_rn 0 (cX10_due.data.toList.drop 0) [(0, 8), (0, 19), (0, 8), (0, 20), (0, 2), (2, 0), (4, 4), (0, 4), (0, 15), (0, 2), (0, 8), (3, 1), (0, 21), (0, 3)] = some [(0, .iconst 0, 1), (1, .istore_n 1, 1), (2, .iconst 0, 1), (3, .istore_n 2, 1), (4, .iload_n 2, 1), (5, .bipush 8, 2), (7, .if_icmp .ge 68, 3), (10, .aload_n 0, 1), (11, .iconst 3, 1), (12, .iload_n 2, 1), (13, .iconst 0, 1), (14, .invokevirtual 216, 3), (17, .istore_n 3, 1), (18, .iload_n 3, 1)] := by decide +kernel
theorem dX10_due_0 : decode cX10_due 0 = .ok (.iconst 0, 1) := dz_at dqX10_due_p130 0 rfl
theorem dX10_due_1 : decode cX10_due 1 = .ok (.istore_n 1, 1) := dz_at dqX10_due_p130 1 rfl
theorem dX10_due_2 : decode cX10_due 2 = .ok (.iconst 0, 1) := dz_at dqX10_due_p130 2 rfl
theorem dX10_due_3 : decode cX10_due 3 = .ok (.istore_n 2, 1) := dz_at dqX10_due_p130 3 rfl
theorem dX10_due_4 : decode cX10_due 4 = .ok (.iload_n 2, 1) := dz_at dqX10_due_p130 4 rfl
theorem dX10_due_5 : decode cX10_due 5 = .ok (.bipush 8, 2) := dz_at dqX10_due_p130 5 rfl
theorem dX10_due_7 : decode cX10_due 7 = .ok (.if_icmp .ge 68, 3) := dz_at dqX10_due_p130 6 rfl
theorem dX10_due_10 : decode cX10_due 10 = .ok (.aload_n 0, 1) := dz_at dqX10_due_p130 7 rfl
theorem dX10_due_11 : decode cX10_due 11 = .ok (.iconst 3, 1) := dz_at dqX10_due_p130 8 rfl
theorem dX10_due_12 : decode cX10_due 12 = .ok (.iload_n 2, 1) := dz_at dqX10_due_p130 9 rfl
theorem dX10_due_13 : decode cX10_due 13 = .ok (.iconst 0, 1) := dz_at dqX10_due_p130 10 rfl
theorem dX10_due_14 : decode cX10_due 14 = .ok (.invokevirtual 216, 3) := dz_at dqX10_due_p130 11 rfl
theorem dX10_due_17 : decode cX10_due 17 = .ok (.istore_n 3, 1) := dz_at dqX10_due_p130 12 rfl
theorem dX10_due_18 : decode cX10_due 18 = .ok (.iload_n 3, 1) := dz_at dqX10_due_p130 13 rfl
set_option maxRecDepth 20000 in
theorem dqX10_due_p131 : dz_rn 19 (cX10_due.data.toList.drop 19) [(4, 12), (0, 4), (3, 0), (0, 2), (0, 10), (0, 13), (4, 1), (0, 4), (3, 0), (0, 4), (3, 0), (0, 2), (0, 10), (0, 26)] = some [(19, .ifCond .le 32, 3), (22, .aload_n 0, 1), (23, .getfield 47, 3), (26, .iload_n 2, 1), (27, .iaload, 1), (28, .iconst (-1), 1), (29, .if_icmp .eq 18, 3), (32, .aload_n 0, 1), (33, .getfield 125, 3), (36, .aload_n 0, 1), (37, .getfield 47, 3), (40, .iload_n 2, 1), (41, .iaload, 1), (42, .isub, 1)] := by decide +kernel
theorem dX10_due_19 : decode cX10_due 19 = .ok (.ifCond .le 32, 3) := dz_at dqX10_due_p131 0 rfl
theorem dX10_due_22 : decode cX10_due 22 = .ok (.aload_n 0, 1) := dz_at dqX10_due_p131 1 rfl
theorem dX10_due_23 : decode cX10_due 23 = .ok (.getfield 47, 3) := dz_at dqX10_due_p131 2 rfl
theorem dX10_due_26 : decode cX10_due 26 = .ok (.iload_n 2, 1) := dz_at dqX10_due_p131 3 rfl
theorem dX10_due_27 : decode cX10_due 27 = .ok (.iaload, 1) := dz_at dqX10_due_p131 4 rfl
theorem dX10_due_28 : decode cX10_due 28 = .ok (.iconst (-1), 1) := dz_at dqX10_due_p131 5 rfl
theorem dX10_due_29 : decode cX10_due 29 = .ok (.if_icmp .eq 18, 3) := dz_at dqX10_due_p131 6 rfl
theorem dX10_due_32 : decode cX10_due 32 = .ok (.aload_n 0, 1) := dz_at dqX10_due_p131 7 rfl
theorem dX10_due_33 : decode cX10_due 33 = .ok (.getfield 125, 3) := dz_at dqX10_due_p131 8 rfl
theorem dX10_due_36 : decode cX10_due 36 = .ok (.aload_n 0, 1) := dz_at dqX10_due_p131 9 rfl
theorem dX10_due_37 : decode cX10_due 37 = .ok (.getfield 47, 3) := dz_at dqX10_due_p131 10 rfl
theorem dX10_due_40 : decode cX10_due 40 = .ok (.iload_n 2, 1) := dz_at dqX10_due_p131 11 rfl
theorem dX10_due_41 : decode cX10_due 41 = .ok (.iaload, 1) := dz_at dqX10_due_p131 12 rfl
theorem dX10_due_42 : decode cX10_due 42 = .ok (.isub, 1) := dz_at dqX10_due_p131 13 rfl
set_option maxRecDepth 20000 in
theorem dqX10_due_p132 : dz_rn 43 (cX10_due.data.toList.drop 43) [(0, 3), (4, 3), (0, 9), (4, 0), (0, 8), (1, 1), (0, 1), (1, 0), (4, 7), (0, 9), (0, 2), (0, 31), (4, 0), (0, 8)] = some [(43, .iload_n 3, 1), (44, .if_icmp .lt 7, 3), (47, .iconst 1, 1), (48, .goto 4, 3), (51, .iconst 0, 1), (52, .istore 4, 2), (54, .iload_n 1, 1), (55, .iload 4, 2), (57, .ifCond .eq 9, 3), (60, .iconst 1, 1), (61, .iload_n 2, 1), (62, .ishl, 1), (63, .goto 4, 3), (66, .iconst 0, 1)] := by decide +kernel
theorem dX10_due_43 : decode cX10_due 43 = .ok (.iload_n 3, 1) := dz_at dqX10_due_p132 0 rfl
theorem dX10_due_44 : decode cX10_due 44 = .ok (.if_icmp .lt 7, 3) := dz_at dqX10_due_p132 1 rfl
theorem dX10_due_47 : decode cX10_due 47 = .ok (.iconst 1, 1) := dz_at dqX10_due_p132 2 rfl
theorem dX10_due_48 : decode cX10_due 48 = .ok (.goto 4, 3) := dz_at dqX10_due_p132 3 rfl
theorem dX10_due_51 : decode cX10_due 51 = .ok (.iconst 0, 1) := dz_at dqX10_due_p132 4 rfl
theorem dX10_due_52 : decode cX10_due 52 = .ok (.istore 4, 2) := dz_at dqX10_due_p132 5 rfl
theorem dX10_due_54 : decode cX10_due 54 = .ok (.iload_n 1, 1) := dz_at dqX10_due_p132 6 rfl
theorem dX10_due_55 : decode cX10_due 55 = .ok (.iload 4, 2) := dz_at dqX10_due_p132 7 rfl
theorem dX10_due_57 : decode cX10_due 57 = .ok (.ifCond .eq 9, 3) := dz_at dqX10_due_p132 8 rfl
theorem dX10_due_60 : decode cX10_due 60 = .ok (.iconst 1, 1) := dz_at dqX10_due_p132 9 rfl
theorem dX10_due_61 : decode cX10_due 61 = .ok (.iload_n 2, 1) := dz_at dqX10_due_p132 10 rfl
theorem dX10_due_62 : decode cX10_due 62 = .ok (.ishl, 1) := dz_at dqX10_due_p132 11 rfl
theorem dX10_due_63 : decode cX10_due 63 = .ok (.goto 4, 3) := dz_at dqX10_due_p132 12 rfl
theorem dX10_due_66 : decode cX10_due 66 = .ok (.iconst 0, 1) := dz_at dqX10_due_p132 13 rfl
set_option maxRecDepth 20000 in
theorem dqX10_due_p133 : dz_rn 67 (cX10_due.data.toList.drop 67) [(0, 39), (0, 19), (5, 0), (4, 0), (0, 1), (0, 12)] = some [(67, .ior, 1), (68, .istore_n 1, 1), (69, .iinc 2 1, 3), (72, .goto (-68), 3), (75, .iload_n 1, 1), (76, .ireturn, 1)] := by decide +kernel
theorem dX10_due_67 : decode cX10_due 67 = .ok (.ior, 1) := dz_at dqX10_due_p133 0 rfl
theorem dX10_due_68 : decode cX10_due 68 = .ok (.istore_n 1, 1) := dz_at dqX10_due_p133 1 rfl
theorem dX10_due_69 : decode cX10_due 69 = .ok (.iinc 2 1, 3) := dz_at dqX10_due_p133 2 rfl
theorem dX10_due_72 : decode cX10_due 72 = .ok (.goto (-68), 3) := dz_at dqX10_due_p133 3 rfl
theorem dX10_due_75 : decode cX10_due 75 = .ok (.iload_n 1, 1) := dz_at dqX10_due_p133 4 rfl
theorem dX10_due_76 : decode cX10_due 76 = .ok (.ireturn, 1) := dz_at dqX10_due_p133 5 rfl
