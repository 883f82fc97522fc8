theorem dX9_barredByAgain_14 : decode cX9_barredByAgain 14 = .ok (.getfield 294, 3) := by decide +kernel
theorem dX9_barredByAgain_17 : decode cX9_barredByAgain 17 = .ok (.iconst (-1), 1) := by decide +kernel
theorem dX9_barredByAgain_18 : decode cX9_barredByAgain 18 = .ok (.if_icmp .eq 31, 3) := by decide +kernel
theorem dX9_barredByAgain_21 : decode cX9_barredByAgain 21 = .ok (.iload_n 2, 1) := by decide +kernel
theorem dX9_barredByAgain_22 : decode cX9_barredByAgain 22 = .ok (.iconst (-1), 1) := by decide +kernel
theorem dX9_barredByAgain_23 : decode cX9_barredByAgain 23 = .ok (.if_icmp .eq 26, 3) := by decide +kernel
theorem dX9_barredByAgain_26 : decode cX9_barredByAgain 26 = .ok (.aload_n 0, 1) := by decide +kernel
theorem dX9_barredByAgain_27 : decode cX9_barredByAgain 27 = .ok (.getfield 28, 3) := by decide +kernel
theorem dX9_barredByAgain_30 : decode cX9_barredByAgain 30 = .ok (.getfield 153, 3) := by decide +kernel
theorem dX9_barredByAgain_33 : decode cX9_barredByAgain 33 = .ok (.iload_n 2, 1) := by decide +kernel
theorem dX9_barredByAgain_34 : decode cX9_barredByAgain 34 = .ok (.isub, 1) := by decide +kernel
theorem dX9_barredByAgain_35 : decode cX9_barredByAgain 35 = .ok (.aload_n 0, 1) := by decide +kernel
theorem dX9_barredByAgain_36 : decode cX9_barredByAgain 36 = .ok (.getfield 76, 3) := by decide +kernel
theorem dX9_barredByAgain_39 : decode cX9_barredByAgain 39 = .ok (.getfield 294, 3) := by decide +kernel
theorem dX9_barredByAgain_42 : decode cX9_barredByAgain 42 = .ok (.if_icmp .ge 7, 3) := by decide +kernel
theorem dX9_barredByAgain_45 : decode cX9_barredByAgain 45 = .ok (.iconst 1, 1) := by decide +kernel
theorem dX9_barredByAgain_46 : decode cX9_barredByAgain 46 = .ok (.goto 4, 3) := by decide +kernel
theorem dX9_barredByAgain_49 : decode cX9_barredByAgain 49 = .ok (.iconst 0, 1) := by decide +kernel
theorem dX9_barredByAgain_50 : decode cX9_barredByAgain 50 = .ok (.ireturn, 1) := by decide +kernel
set_option maxRecDepth 20000 in
theorem ggX9_barredByApart_X9_tooLike : GoodIn wsX9_barredByApart wsX9_tooLike := goodIn_r _ [7, 8, 1, 9, 10, 11, 12, 13, 14, 15, 16, 17, 18, 19, 20, 21, 22, 23, 24, 25, 26, 27, 28, 29, 30, 31, 32, 33, 34, 35, 36, 37, 51] rfl (by decide +kernel)
set_option maxRecDepth 20000 in
theorem gX9_barredByApart_X9_tooLike : GoodIn wsX9_barredByApart (wsV RX9 300 RX9 yX9_tooLike wsX9_tooLike) := goodIn_app (goodIn_of _ (by decide +kernel)) ggX9_barredByApart_X9_tooLike
theorem dX9_barredByApart_0 : decode cX9_barredByApart 0 = .ok (.aload_n 0, 1) := by decide +kernel
theorem dX9_barredByApart_1 : decode cX9_barredByApart 1 = .ok (.getfield 76, 3) := by decide +kernel
theorem dX9_barredByApart_4 : decode cX9_barredByApart 4 = .ok (.getfield 297, 3) := by decide +kernel
theorem dX9_barredByApart_7 : decode cX9_barredByApart 7 = .ok (.iconst (-1), 1) := by decide +kernel
theorem dX9_barredByApart_8 : decode cX9_barredByApart 8 = .ok (.if_icmp .ne 5, 3) := by decide +kernel
theorem dX9_barredByApart_11 : decode cX9_barredByApart 11 = .ok (.iconst 0, 1) := by decide +kernel
theorem dX9_barredByApart_12 : decode cX9_barredByApart 12 = .ok (.ireturn, 1) := by decide +kernel
theorem dX9_barredByApart_13 : decode cX9_barredByApart 13 = .ok (.iload_n 2, 1) := by decide +kernel
theorem dX9_barredByApart_14 : decode cX9_barredByApart 14 = .ok (.bipush 6, 2) := by decide +kernel
theorem dX9_barredByApart_16 : decode cX9_barredByApart 16 = .ok (.irem, 1) := by decide +kernel
theorem dX9_barredByApart_17 : decode cX9_barredByApart 17 = .ok (.istore_n 3, 1) := by decide +kernel
theorem dX9_barredByApart_18 : decode cX9_barredByApart 18 = .ok (.iload_n 3, 1) := by decide +kernel
theorem dX9_barredByApart_19 : decode cX9_barredByApart 19 = .ok (.ifCond .le 22, 3) := by decide +kernel
theorem dX9_barredByApart_22 : decode cX9_barredByApart 22 = .ok (.aload_n 0, 1) := by decide +kernel
theorem dX9_barredByApart_23 : decode cX9_barredByApart 23 = .ok (.iload_n 1, 1) := by decide +kernel
theorem dX9_barredByApart_24 : decode cX9_barredByApart 24 = .ok (.aload_n 0, 1) := by decide +kernel
theorem dX9_barredByApart_25 : decode cX9_barredByApart 25 = .ok (.getfield 28, 3) := by decide +kernel
theorem dX9_barredByApart_28 : decode cX9_barredByApart 28 = .ok (.getfield 131, 3) := by decide +kernel
theorem dX9_barredByApart_31 : decode cX9_barredByApart 31 = .ok (.iload_n 2, 1) := by decide +kernel
theorem dX9_barredByApart_32 : decode cX9_barredByApart 32 = .ok (.iconst 1, 1) := by decide +kernel
theorem dX9_barredByApart_33 : decode cX9_barredByApart 33 = .ok (.isub, 1) := by decide +kernel
theorem dX9_barredByApart_34 : decode cX9_barredByApart 34 = .ok (.iaload, 1) := by decide +kernel
theorem dX9_barredByApart_35 : decode cX9_barredByApart 35 = .ok (.invokevirtual 300, 3) := by decide +kernel
theorem dX9_barredByApart_38 : decode cX9_barredByApart 38 = .ok (.ifCond .ne 27, 3) := by decide +kernel
theorem dX9_barredByApart_41 : decode cX9_barredByApart 41 = .ok (.iload_n 3, 1) := by decide +kernel
theorem dX9_barredByApart_42 : decode cX9_barredByApart 42 = .ok (.iconst 5, 1) := by decide +kernel
theorem dX9_barredByApart_43 : decode cX9_barredByApart 43 = .ok (.if_icmp .ge 26, 3) := by decide +kernel
theorem dX9_barredByApart_46 : decode cX9_barredByApart 46 = .ok (.aload_n 0, 1) := by decide +kernel
theorem dX9_barredByApart_47 : decode cX9_barredByApart 47 = .ok (.iload_n 1, 1) := by decide +kernel
theorem dX9_barredByApart_48 : decode cX9_barredByApart 48 = .ok (.aload_n 0, 1) := by decide +kernel
theorem dX9_barredByApart_49 : decode cX9_barredByApart 49 = .ok (.getfield 28, 3) := by decide +kernel
theorem dX9_barredByApart_52 : decode cX9_barredByApart 52 = .ok (.getfield 131, 3) := by decide +kernel
theorem dX9_barredByApart_55 : decode cX9_barredByApart 55 = .ok (.iload_n 2, 1) := by decide +kernel
theorem dX9_barredByApart_56 : decode cX9_barredByApart 56 = .ok (.iconst 1, 1) := by decide +kernel
theorem dX9_barredByApart_57 : decode cX9_barredByApart 57 = .ok (.iadd, 1) := by decide +kernel
theorem dX9_barredByApart_58 : decode cX9_barredByApart 58 = .ok (.iaload, 1) := by decide +kernel
theorem dX9_barredByApart_59 : decode cX9_barredByApart 59 = .ok (.invokevirtual 300, 3) := by decide +kernel
theorem dX9_barredByApart_62 : decode cX9_barredByApart 62 = .ok (.ifCond .eq 7, 3) := by decide +kernel
theorem dX9_barredByApart_65 : decode cX9_barredByApart 65 = .ok (.iconst 1, 1) := by decide +kernel
theorem dX9_barredByApart_66 : decode cX9_barredByApart 66 = .ok (.goto 4, 3) := by decide +kernel
theorem dX9_barredByApart_69 : decode cX9_barredByApart 69 = .ok (.iconst 0, 1) := by decide +kernel
theorem dX9_barredByApart_70 : decode cX9_barredByApart 70 = .ok (.ireturn, 1) := by decide +kernel
set_option maxRecDepth 20000 in
theorem ggX9_tooLike_X2_shared : GoodIn wsX9_tooLike wsX2_shared := goodIn_r _ [7, 8, 9, 10, 11, 12, 13, 14, 15, 32] rfl (by decide +kernel)
set_option maxRecDepth 20000 in
theorem gX9_tooLike_X2_shared : GoodIn wsX9_tooLike (wsV RX9 113 RX2 yX2_shared wsX2_shared) := goodIn_app (goodIn_of _ (by decide +kernel)) ggX9_tooLike_X2_shared
theorem dX9_tooLike_0 : decode cX9_tooLike 0 = .ok (.iload_n 2, 1) := by decide +kernel
theorem dX9_tooLike_1 : decode cX9_tooLike 1 = .ok (.iconst (-1), 1) := by decide +kernel
theorem dX9_tooLike_2 : decode cX9_tooLike 2 = .ok (.if_icmp .eq 26, 3) := by decide +kernel
theorem dX9_tooLike_5 : decode cX9_tooLike 5 = .ok (.aload_n 0, 1) := by decide +kernel
theorem dX9_tooLike_6 : decode cX9_tooLike 6 = .ok (.getfield 19, 3) := by decide +kernel
theorem dX9_tooLike_9 : decode cX9_tooLike 9 = .ok (.iload_n 1, 1) := by decide +kernel
theorem dX9_tooLike_10 : decode cX9_tooLike 10 = .ok (.iload_n 2, 1) := by decide +kernel
theorem dX9_tooLike_11 : decode cX9_tooLike 11 = .ok (.invokevirtual 113, 3) := by decide +kernel
theorem dX9_tooLike_14 : decode cX9_tooLike 14 = .ok (.aload_n 0, 1) := by decide +kernel
theorem dX9_tooLike_15 : decode cX9_tooLike 15 = .ok (.getfield 76, 3) := by decide +kernel
theorem dX9_tooLike_18 : decode cX9_tooLike 18 = .ok (.getfield 297, 3) := by decide +kernel
theorem dX9_tooLike_21 : decode cX9_tooLike 21 = .ok (.if_icmp .le 7, 3) := by decide +kernel
theorem dX9_tooLike_24 : decode cX9_tooLike 24 = .ok (.iconst 1, 1) := by decide +kernel
theorem dX9_tooLike_25 : decode cX9_tooLike 25 = .ok (.goto 4, 3) := by decide +kernel
theorem dX9_tooLike_28 : decode cX9_tooLike 28 = .ok (.iconst 0, 1) := by decide +kernel
theorem dX9_tooLike_29 : decode cX9_tooLike 29 = .ok (.ireturn, 1) := by decide +kernel
theorem dX9_isDue_0 : decode cX9_isDue 0 = .ok (.aload_n 0, 1) := by decide +kernel
theorem dX9_isDue_1 : decode cX9_isDue 1 = .ok (.getfield 76, 3) := by decide +kernel
theorem dX9_isDue_4 : decode cX9_isDue 4 = .ok (.getfield 303, 3) := by decide +kernel
theorem dX9_isDue_7 : decode cX9_isDue 7 = .ok (.iload_n 1, 1) := by decide +kernel
theorem dX9_isDue_8 : decode cX9_isDue 8 = .ok (.iaload, 1) := by decide +kernel
theorem dX9_isDue_9 : decode cX9_isDue 9 = .ok (.istore_n 2, 1) := by decide +kernel
theorem dX9_isDue_10 : decode cX9_isDue 10 = .ok (.aload_n 0, 1) := by decide +kernel
theorem dX9_isDue_11 : decode cX9_isDue 11 = .ok (.getfield 28, 3) := by decide +kernel
theorem dX9_isDue_14 : decode cX9_isDue 14 = .ok (.getfield 306, 3) := by decide +kernel
theorem dX9_isDue_17 : decode cX9_isDue 17 = .ok (.iload_n 1, 1) := by decide +kernel
theorem dX9_isDue_18 : decode cX9_isDue 18 = .ok (.iaload, 1) := by decide +kernel
theorem dX9_isDue_19 : decode cX9_isDue 19 = .ok (.istore_n 3, 1) := by decide +kernel
theorem dX9_isDue_20 : decode cX9_isDue 20 = .ok (.iload_n 2, 1) := by decide +kernel
theorem dX9_isDue_21 : decode cX9_isDue 21 = .ok (.iconst (-1), 1) := by decide +kernel
theorem dX9_isDue_22 : decode cX9_isDue 22 = .ok (.if_icmp .eq 25, 3) := by decide +kernel
theorem dX9_isDue_25 : decode cX9_isDue 25 = .ok (.iload_n 3, 1) := by decide +kernel
theorem dX9_isDue_26 : decode cX9_isDue 26 = .ok (.iconst (-1), 1) := by decide +kernel
theorem dX9_isDue_27 : decode cX9_isDue 27 = .ok (.if_icmp .eq 16, 3) := by decide +kernel
theorem dX9_isDue_30 : decode cX9_isDue 30 = .ok (.aload_n 0, 1) := by decide +kernel
theorem dX9_isDue_31 : decode cX9_isDue 31 = .ok (.getfield 28, 3) := by decide +kernel
theorem dX9_isDue_34 : decode cX9_isDue 34 = .ok (.getfield 153, 3) := by decide +kernel
theorem dX9_isDue_37 : decode cX9_isDue 37 = .ok (.iload_n 3, 1) := by decide +kernel
theorem dX9_isDue_38 : decode cX9_isDue 38 = .ok (.isub, 1) := by decide +kernel
theorem dX9_isDue_39 : decode cX9_isDue 39 = .ok (.iload_n 2, 1) := by decide +kernel
theorem dX9_isDue_40 : decode cX9_isDue 40 = .ok (.if_icmp .lt 7, 3) := by decide +kernel
theorem dX9_isDue_43 : decode cX9_isDue 43 = .ok (.iconst 1, 1) := by decide +kernel
theorem dX9_isDue_44 : decode cX9_isDue 44 = .ok (.goto 4, 3) := by decide +kernel
theorem dX9_isDue_47 : decode cX9_isDue 47 = .ok (.iconst 0, 1) := by decide +kernel
theorem dX9_isDue_48 : decode cX9_isDue 48 = .ok (.ireturn, 1) := by decide +kernel
set_option maxRecDepth 20000 in
theorem ggX9_standsThroughDoor_X8_joined : GoodIn wsX9_standsThroughDoor wsX8_joined := goodIn_r _ [7, 8, 9, 10, 6, 11, 12, 37, 38] rfl (by decide +kernel)
set_option maxRecDepth 20000 in
theorem gX9_standsThroughDoor_X8_joined : GoodIn wsX9_standsThroughDoor (wsV RX9 87 RX8 yX8_joined wsX8_joined) := goodIn_app (goodIn_of _ (by decide +kernel)) ggX9_standsThroughDoor_X8_joined
theorem dX9_standsThroughDoor_0 : decode cX9_standsThroughDoor 0 = .ok (.aload_n 0, 1) := by decide +kernel
theorem dX9_standsThroughDoor_1 : decode cX9_standsThroughDoor 1 = .ok (.getfield 28, 3) := by decide +kernel
theorem dX9_standsThroughDoor_4 : decode cX9_standsThroughDoor 4 = .ok (.getfield 128, 3) := by decide +kernel
theorem dX9_standsThroughDoor_7 : decode cX9_standsThroughDoor 7 = .ok (.iload_n 2, 1) := by decide +kernel
theorem dX9_standsThroughDoor_8 : decode cX9_standsThroughDoor 8 = .ok (.iaload, 1) := by decide +kernel
theorem dX9_standsThroughDoor_9 : decode cX9_standsThroughDoor 9 = .ok (.istore_n 3, 1) := by decide +kernel
theorem dX9_standsThroughDoor_10 : decode cX9_standsThroughDoor 10 = .ok (.iload_n 3, 1) := by decide +kernel
theorem dX9_standsThroughDoor_11 : decode cX9_standsThroughDoor 11 = .ok (.iconst (-1), 1) := by decide +kernel
theorem dX9_standsThroughDoor_12 : decode cX9_standsThroughDoor 12 = .ok (.if_icmp .eq 36, 3) := by decide +kernel
theorem dX9_standsThroughDoor_15 : decode cX9_standsThroughDoor 15 = .ok (.iload_n 3, 1) := by decide +kernel
theorem dX9_standsThroughDoor_16 : decode cX9_standsThroughDoor 16 = .ok (.bipush 6, 2) := by decide +kernel
theorem dX9_standsThroughDoor_18 : decode cX9_standsThroughDoor 18 = .ok (.irem, 1) := by decide +kernel
theorem dX9_standsThroughDoor_19 : decode cX9_standsThroughDoor 19 = .ok (.iload_n 1, 1) := by decide +kernel
theorem dX9_standsThroughDoor_20 : decode cX9_standsThroughDoor 20 = .ok (.bipush 6, 2) := by decide +kernel
theorem dX9_standsThroughDoor_22 : decode cX9_standsThroughDoor 22 = .ok (.irem, 1) := by decide +kernel
theorem dX9_standsThroughDoor_23 : decode cX9_standsThroughDoor 23 = .ok (.if_icmp .ne 25, 3) := by decide +kernel
theorem dX9_standsThroughDoor_26 : decode cX9_standsThroughDoor 26 = .ok (.aload_n 0, 1) := by decide +kernel
theorem dX9_standsThroughDoor_27 : decode cX9_standsThroughDoor 27 = .ok (.getfield 12, 3) := by decide +kernel
theorem dX9_standsThroughDoor_30 : decode cX9_standsThroughDoor 30 = .ok (.iload_n 3, 1) := by decide +kernel
theorem dX9_standsThroughDoor_31 : decode cX9_standsThroughDoor 31 = .ok (.bipush 6, 2) := by decide +kernel
theorem dX9_standsThroughDoor_33 : decode cX9_standsThroughDoor 33 = .ok (.idiv, 1) := by decide +kernel
theorem dX9_standsThroughDoor_34 : decode cX9_standsThroughDoor 34 = .ok (.iload_n 1, 1) := by decide +kernel
theorem dX9_standsThroughDoor_35 : decode cX9_standsThroughDoor 35 = .ok (.bipush 6, 2) := by decide +kernel
theorem dX9_standsThroughDoor_37 : decode cX9_standsThroughDoor 37 = .ok (.idiv, 1) := by decide +kernel
theorem dX9_standsThroughDoor_38 : decode cX9_standsThroughDoor 38 = .ok (.invokevirtual 87, 3) := by decide +kernel
theorem dX9_standsThroughDoor_41 : decode cX9_standsThroughDoor 41 = .ok (.ifCond .eq 7, 3) := by decide +kernel
theorem dX9_standsThroughDoor_44 : decode cX9_standsThroughDoor 44 = .ok (.iconst 1, 1) := by decide +kernel
theorem dX9_standsThroughDoor_45 : decode cX9_standsThroughDoor 45 = .ok (.goto 4, 3) := by decide +kernel
theorem dX9_standsThroughDoor_48 : decode cX9_standsThroughDoor 48 = .ok (.iconst 0, 1) := by decide +kernel
theorem dX9_standsThroughDoor_49 : decode cX9_standsThroughDoor 49 = .ok (.ireturn, 1) := by decide +kernel
set_option maxRecDepth 20000 in
theorem ggX9_rowRefusal_X9_thingOf : GoodIn wsX9_rowRefusal wsX9_thingOf := goodIn_r _ [9, 10] rfl (by decide +kernel)
set_option maxRecDepth 20000 in
theorem gX9_rowRefusal_X9_thingOf : GoodIn wsX9_rowRefusal (va_wsS RX9 309 yX9_thingOf wsX9_thingOf) := goodIn_app (goodIn_of _ (by decide +kernel)) ggX9_rowRefusal_X9_thingOf
set_option maxRecDepth 20000 in
theorem ggX9_rowRefusal_X9_isThing : GoodIn wsX9_rowRefusal wsX9_isThing := goodIn_r _ [13, 14, 15, 8, 16] rfl (by decide +kernel)
set_option maxRecDepth 20000 in
theorem gX9_rowRefusal_X9_isThing : GoodIn wsX9_rowRefusal (va_wsS RX9 103 yX9_isThing wsX9_isThing) := goodIn_app (goodIn_of _ (by decide +kernel)) ggX9_rowRefusal_X9_isThing
set_option maxRecDepth 20000 in
theorem ggX9_rowRefusal_X9_within : GoodIn wsX9_rowRefusal wsX9_within := goodIn_r _ [16] rfl (by decide +kernel)
set_option maxRecDepth 20000 in
theorem gX9_rowRefusal_X9_within : GoodIn wsX9_rowRefusal (va_wsS RX9 106 yX9_within wsX9_within) := goodIn_app (goodIn_of _ (by decide +kernel)) ggX9_rowRefusal_X9_within
theorem dX9_rowRefusal_0 : decode cX9_rowRefusal 0 = .ok (.iload_n 3, 1) := by decide +kernel
theorem dX9_rowRefusal_1 : decode cX9_rowRefusal 1 = .ok (.bipush 12, 2) := by decide +kernel
theorem dX9_rowRefusal_3 : decode cX9_rowRefusal 3 = .ok (.invokestatic 285, 3) := by decide +kernel
theorem dX9_rowRefusal_6 : decode cX9_rowRefusal 6 = .ok (.istore 7, 2) := by decide +kernel
theorem dX9_rowRefusal_8 : decode cX9_rowRefusal 8 = .ok (.iconst 0, 1) := by decide +kernel
theorem dX9_rowRefusal_9 : decode cX9_rowRefusal 9 = .ok (.istore 8, 2) := by decide +kernel
theorem dX9_rowRefusal_11 : decode cX9_rowRefusal 11 = .ok (.iload 8, 2) := by decide +kernel
theorem dX9_rowRefusal_13 : decode cX9_rowRefusal 13 = .ok (.iload 7, 2) := by decide +kernel
theorem dX9_rowRefusal_15 : decode cX9_rowRefusal 15 = .ok (.if_icmp .ge 24, 3) := by decide +kernel
theorem dX9_rowRefusal_18 : decode cX9_rowRefusal 18 = .ok (.lload_n 1, 1) := by decide +kernel
theorem dX9_rowRefusal_19 : decode cX9_rowRefusal 19 = .ok (.iload 8, 2) := by decide +kernel
theorem dX9_rowRefusal_21 : decode cX9_rowRefusal 21 = .ok (.invokestatic 309, 3) := by decide +kernel
theorem dX9_rowRefusal_24 : decode cX9_rowRefusal 24 = .ok (.invokestatic 103, 3) := by decide +kernel
theorem dX9_rowRefusal_27 : decode cX9_rowRefusal 27 = .ok (.ifCond .ne 6, 3) := by decide +kernel
theorem dX9_rowRefusal_30 : decode cX9_rowRefusal 30 = .ok (.bipush (-2), 2) := by decide +kernel
theorem dX9_rowRefusal_32 : decode cX9_rowRefusal 32 = .ok (.ireturn, 1) := by decide +kernel
theorem dX9_rowRefusal_33 : decode cX9_rowRefusal 33 = .ok (.iinc 8 1, 3) := by decide +kernel
theorem dX9_rowRefusal_36 : decode cX9_rowRefusal 36 = .ok (.goto (-25), 3) := by decide +kernel
theorem dX9_rowRefusal_39 : decode cX9_rowRefusal 39 = .ok (.iload_n 3, 1) := by decide +kernel
theorem dX9_rowRefusal_40 : decode cX9_rowRefusal 40 = .ok (.iload 5, 2) := by decide +kernel
theorem dX9_rowRefusal_42 : decode cX9_rowRefusal 42 = .ok (.iload 6, 2) := by decide +kernel
theorem dX9_rowRefusal_44 : decode cX9_rowRefusal 44 = .ok (.invokestatic 106, 3) := by decide +kernel
theorem dX9_rowRefusal_47 : decode cX9_rowRefusal 47 = .ok (.ifCond .eq 18, 3) := by decide +kernel
theorem dX9_rowRefusal_50 : decode cX9_rowRefusal 50 = .ok (.iload_n 3, 1) := by decide +kernel
theorem dX9_rowRefusal_51 : decode cX9_rowRefusal 51 = .ok (.aload_n 0, 1) := by decide +kernel
theorem dX9_rowRefusal_52 : decode cX9_rowRefusal 52 = .ok (.getfield 69, 3) := by decide +kernel
theorem dX9_rowRefusal_55 : decode cX9_rowRefusal 55 = .ok (.arraylength, 1) := by decide +kernel
theorem dX9_rowRefusal_56 : decode cX9_rowRefusal 56 = .ok (.if_icmp .gt 9, 3) := by decide +kernel
theorem dX9_rowRefusal_59 : decode cX9_rowRefusal 59 = .ok (.iload 4, 2) := by decide +kernel
theorem dX9_rowRefusal_61 : decode cX9_rowRefusal 61 = .ok (.iconst (-1), 1) := by decide +kernel
theorem dX9_rowRefusal_62 : decode cX9_rowRefusal 62 = .ok (.if_icmp .ge 6, 3) := by decide +kernel
theorem dX9_rowRefusal_65 : decode cX9_rowRefusal 65 = .ok (.bipush (-3), 2) := by decide +kernel
theorem dX9_rowRefusal_67 : decode cX9_rowRefusal 67 = .ok (.ireturn, 1) := by decide +kernel
theorem dX9_rowRefusal_68 : decode cX9_rowRefusal 68 = .ok (.iconst 0, 1) := by decide +kernel
theorem dX9_rowRefusal_69 : decode cX9_rowRefusal 69 = .ok (.istore 8, 2) := by decide +kernel
theorem dX9_rowRefusal_71 : decode cX9_rowRefusal 71 = .ok (.iconst 0, 1) := by decide +kernel
theorem dX9_rowRefusal_72 : decode cX9_rowRefusal 72 = .ok (.istore 9, 2) := by decide +kernel
theorem dX9_rowRefusal_74 : decode cX9_rowRefusal 74 = .ok (.iload 9, 2) := by decide +kernel
theorem dX9_rowRefusal_76 : decode cX9_rowRefusal 76 = .ok (.iload_n 3, 1) := by decide +kernel
theorem dX9_rowRefusal_77 : decode cX9_rowRefusal 77 = .ok (.if_icmp .ge 49, 3) := by decide +kernel
theorem dX9_rowRefusal_80 : decode cX9_rowRefusal 80 = .ok (.lload_n 1, 1) := by decide +kernel
theorem dX9_rowRefusal_81 : decode cX9_rowRefusal 81 = .ok (.iload 9, 2) := by decide +kernel
theorem dX9_rowRefusal_83 : decode cX9_rowRefusal 83 = .ok (.invokestatic 309, 3) := by decide +kernel
theorem dX9_rowRefusal_86 : decode cX9_rowRefusal 86 = .ok (.istore 10, 2) := by decide +kernel
theorem dX9_rowRefusal_88 : decode cX9_rowRefusal 88 = .ok (.iload 8, 2) := by decide +kernel
theorem dX9_rowRefusal_90 : decode cX9_rowRefusal 90 = .ok (.iload 10, 2) := by decide +kernel
theorem dX9_rowRefusal_92 : decode cX9_rowRefusal 92 = .ok (.ishr, 1) := by decide +kernel
theorem dX9_rowRefusal_93 : decode cX9_rowRefusal 93 = .ok (.iconst 1, 1) := by decide +kernel
theorem dX9_rowRefusal_94 : decode cX9_rowRefusal 94 = .ok (.iand, 1) := by decide +kernel
theorem dX9_rowRefusal_95 : decode cX9_rowRefusal 95 = .ok (.iconst 1, 1) := by decide +kernel
theorem dX9_rowRefusal_96 : decode cX9_rowRefusal 96 = .ok (.if_icmp .ne 6, 3) := by decide +kernel
theorem dX9_rowRefusal_99 : decode cX9_rowRefusal 99 = .ok (.bipush (-3), 2) := by decide +kernel
theorem dX9_rowRefusal_101 : decode cX9_rowRefusal 101 = .ok (.ireturn, 1) := by decide +kernel
theorem dX9_rowRefusal_102 : decode cX9_rowRefusal 102 = .ok (.iload 8, 2) := by decide +kernel
theorem dX9_rowRefusal_104 : decode cX9_rowRefusal 104 = .ok (.iconst 1, 1) := by decide +kernel
theorem dX9_rowRefusal_105 : decode cX9_rowRefusal 105 = .ok (.iload 10, 2) := by decide +kernel
theorem dX9_rowRefusal_107 : decode cX9_rowRefusal 107 = .ok (.ishl, 1) := by decide +kernel
theorem dX9_rowRefusal_108 : decode cX9_rowRefusal 108 = .ok (.ior, 1) := by decide +kernel
theorem dX9_rowRefusal_109 : decode cX9_rowRefusal 109 = .ok (.istore 8, 2) := by decide +kernel
theorem dX9_rowRefusal_111 : decode cX9_rowRefusal 111 = .ok (.aload_n 0, 1) := by decide +kernel
theorem dX9_rowRefusal_112 : decode cX9_rowRefusal 112 = .ok (.getfield 69, 3) := by decide +kernel
theorem dX9_rowRefusal_115 : decode cX9_rowRefusal 115 = .ok (.iload 9, 2) := by decide +kernel
theorem dX9_rowRefusal_117 : decode cX9_rowRefusal 117 = .ok (.iload 10, 2) := by decide +kernel
theorem dX9_rowRefusal_119 : decode cX9_rowRefusal 119 = .ok (.iastore, 1) := by decide +kernel
theorem dX9_rowRefusal_120 : decode cX9_rowRefusal 120 = .ok (.iinc 9 1, 3) := by decide +kernel
theorem dX9_rowRefusal_123 : decode cX9_rowRefusal 123 = .ok (.goto (-49), 3) := by decide +kernel
theorem dX9_rowRefusal_126 : decode cX9_rowRefusal 126 = .ok (.iconst 0, 1) := by decide +kernel
theorem dX9_rowRefusal_127 : decode cX9_rowRefusal 127 = .ok (.ireturn, 1) := by decide +kernel
theorem dX9_thingOf_0 : decode cX9_thingOf 0 = .ok (.lload_n 0, 1) := by decide +kernel
theorem dX9_thingOf_1 : decode cX9_thingOf 1 = .ok (.iconst 5, 1) := by decide +kernel
theorem dX9_thingOf_2 : decode cX9_thingOf 2 = .ok (.iload_n 2, 1) := by decide +kernel
theorem dX9_thingOf_3 : decode cX9_thingOf 3 = .ok (.imul, 1) := by decide +kernel
theorem dX9_thingOf_4 : decode cX9_thingOf 4 = .ok (.lshr, 1) := by decide +kernel
theorem dX9_thingOf_5 : decode cX9_thingOf 5 = .ok (.ldc2_w 313, 3) := by decide +kernel
theorem dX9_thingOf_8 : decode cX9_thingOf 8 = .ok (.land, 1) := by decide +kernel
theorem dX9_thingOf_9 : decode cX9_thingOf 9 = .ok (.l2i, 1) := by decide +kernel
theorem dX9_thingOf_10 : decode cX9_thingOf 10 = .ok (.ireturn, 1) := by decide +kernel
def puF (a : Nat → Nat) : Nat → Option Nat := va_up (va_up (va_up (va_up (fun _ => none) 0 (some (a 34))) 1 (some (a 36))) 2 (some (a 38))) 3 (some (a 40))
def thF (row : Int64) (k : Int32) : Int32 := ((row >>> ((5 * k).toInt64 &&& 63)) &&& 31).toInt32
abbrev wsW (cI cZ cQ : ClassId) (a : Nat → Nat) (rb0 : Nat) (rb1 : Nat) (rb2 : Nat) (db0 : Nat) (db1 : Nat) (db2 : Nat) (few : Nat → Int32) (doo : Int32) : va_W := [((a 43), .inr (9, [.ref (a 0), .ref (a 2), .ref (a 4), .ref (a 14), .ref (a 16), .ref (a 23), .ref (a 28), .ref (a 33), .ref (a 42), .ref rb0, .ref db0])), ((a 0), .inr (8, [.ref (a 1), .int doo])), ((a 1), .inl (cI, 64, .inl few))]
abbrev wsP (cI cZ cQ : ClassId) (a : Nat → Nat) (rb0 : Nat) (rb1 : Nat) (rb2 : Nat) (db0 : Nat) (db1 : Nat) (db2 : Nat) (mar : Nat → Int32) : va_W := [((a 43), .inr (9, [.ref (a 0), .ref (a 2), .ref (a 4), .ref (a 14), .ref (a 16), .ref (a 23), .ref (a 28), .ref (a 33), .ref (a 42), .ref rb0, .ref db0])), ((a 2), .inr (2, [.ref (a 3)])), ((a 3), .inl (cI, 24, .inl mar))]
