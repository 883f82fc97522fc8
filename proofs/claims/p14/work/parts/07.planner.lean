theorem dX3_init_0 : decode cX3_init 0 = .ok (.aload_n 0, 1) := by decide +kernel
theorem dX3_init_1 : decode cX3_init 1 = .ok (.invokespecial 3, 3) := by decide +kernel
theorem dX3_init_4 : decode cX3_init 4 = .ok (.aload_n 0, 1) := by decide +kernel
theorem dX3_init_5 : decode cX3_init 5 = .ok (.iconst 4, 1) := by decide +kernel
theorem dX3_init_6 : decode cX3_init 6 = .ok (.newarray .int, 2) := by decide +kernel
theorem dX3_init_8 : decode cX3_init 8 = .ok (.putfield 9, 3) := by decide +kernel
theorem dX3_init_11 : decode cX3_init 11 = .ok (.aload_n 0, 1) := by decide +kernel
theorem dX3_init_12 : decode cX3_init 12 = .ok (.iconst 4, 1) := by decide +kernel
theorem dX3_init_13 : decode cX3_init 13 = .ok (.newarray .int, 2) := by decide +kernel
theorem dX3_init_15 : decode cX3_init 15 = .ok (.putfield 15, 3) := by decide +kernel
theorem dX3_init_18 : decode cX3_init 18 = .ok (.aload_n 0, 1) := by decide +kernel
theorem dX3_init_19 : decode cX3_init 19 = .ok (.iconst 4, 1) := by decide +kernel
theorem dX3_init_20 : decode cX3_init 20 = .ok (.newarray .int, 2) := by decide +kernel
theorem dX3_init_22 : decode cX3_init 22 = .ok (.putfield 18, 3) := by decide +kernel
theorem dX3_init_25 : decode cX3_init 25 = .ok (.aload_n 0, 1) := by decide +kernel
theorem dX3_init_26 : decode cX3_init 26 = .ok (.bipush 8, 2) := by decide +kernel
theorem dX3_init_28 : decode cX3_init 28 = .ok (.newarray .int, 2) := by decide +kernel
theorem dX3_init_30 : decode cX3_init 30 = .ok (.putfield 21, 3) := by decide +kernel
theorem dX3_init_33 : decode cX3_init 33 = .ok (.aload_n 0, 1) := by decide +kernel
theorem dX3_init_34 : decode cX3_init 34 = .ok (.bipush 8, 2) := by decide +kernel
theorem dX3_init_36 : decode cX3_init 36 = .ok (.newarray .int, 2) := by decide +kernel
theorem dX3_init_38 : decode cX3_init 38 = .ok (.putfield 24, 3) := by decide +kernel
theorem dX3_init_41 : decode cX3_init 41 = .ok (.aload_n 0, 1) := by decide +kernel
theorem dX3_init_42 : decode cX3_init 42 = .ok (.sipush 128, 3) := by decide +kernel
theorem dX3_init_45 : decode cX3_init 45 = .ok (.newarray .int, 2) := by decide +kernel
theorem dX3_init_47 : decode cX3_init 47 = .ok (.putfield 27, 3) := by decide +kernel
theorem dX3_init_50 : decode cX3_init 50 = .ok (.aload_n 0, 1) := by decide +kernel
theorem dX3_init_51 : decode cX3_init 51 = .ok (.aload_n 1, 1) := by decide +kernel
theorem dX3_init_52 : decode cX3_init 52 = .ok (.putfield 30, 3) := by decide +kernel
theorem dX3_init_55 : decode cX3_init 55 = .ok (.aload_n 0, 1) := by decide +kernel
theorem dX3_init_56 : decode cX3_init 56 = .ok (.aload_n 2, 1) := by decide +kernel
theorem dX3_init_57 : decode cX3_init 57 = .ok (.putfield 34, 3) := by decide +kernel
theorem dX3_init_60 : decode cX3_init 60 = .ok (.return_, 1) := by decide +kernel
set_option maxRecDepth 20000 in
theorem ggX3_costOf_X8_between : GoodIn wsX3_costOf wsX8_between := goodIn_r _ [7, 8, 24, 25] (by decide +kernel) (by decide +kernel)
set_option maxRecDepth 20000 in
theorem gX3_costOf_X8_between : GoodIn wsX3_costOf (wsV RX3 38 RX8 yX8_between wsX8_between) := goodIn_app (goodIn_of _ (by decide +kernel)) ggX3_costOf_X8_between
set_option maxRecDepth 20000 in
theorem ggX3_costOf_X1_standingIn : GoodIn wsX3_costOf wsX1_standingIn := goodIn_r _ [13, 14, 26, 27, 28, 29, 30, 31, 32, 33, 34, 35, 36, 37, 38] (by decide +kernel) (by decide +kernel)
set_option maxRecDepth 20000 in
theorem gX3_costOf_X1_standingIn : GoodIn wsX3_costOf (wsV RX3 44 RX1 yX1_standingIn wsX1_standingIn) := goodIn_app (goodIn_of _ (by decide +kernel)) ggX3_costOf_X1_standingIn
theorem dX3_costOf_0 : decode cX3_costOf 0 = .ok (.aload_n 0, 1) := by decide +kernel
theorem dX3_costOf_1 : decode cX3_costOf 1 = .ok (.getfield 34, 3) := by decide +kernel
theorem dX3_costOf_4 : decode cX3_costOf 4 = .ok (.iconst 0, 1) := by decide +kernel
theorem dX3_costOf_5 : decode cX3_costOf 5 = .ok (.iload_n 1, 1) := by decide +kernel
theorem dX3_costOf_6 : decode cX3_costOf 6 = .ok (.invokevirtual 38, 3) := by decide +kernel
theorem dX3_costOf_9 : decode cX3_costOf 9 = .ok (.istore_n 2, 1) := by decide +kernel
theorem dX3_costOf_10 : decode cX3_costOf 10 = .ok (.iload_n 2, 1) := by decide +kernel
theorem dX3_costOf_11 : decode cX3_costOf 11 = .ok (.iconst (-1), 1) := by decide +kernel
theorem dX3_costOf_12 : decode cX3_costOf 12 = .ok (.if_icmp .ne 7, 3) := by decide +kernel
theorem dX3_costOf_15 : decode cX3_costOf 15 = .ok (.iconst (-1), 1) := by decide +kernel
theorem dX3_costOf_16 : decode cX3_costOf 16 = .ok (.goto 15, 3) := by decide +kernel
theorem dX3_costOf_19 : decode cX3_costOf 19 = .ok (.iconst 2, 1) := by decide +kernel
theorem dX3_costOf_20 : decode cX3_costOf 20 = .ok (.iload_n 2, 1) := by decide +kernel
theorem dX3_costOf_21 : decode cX3_costOf 21 = .ok (.imul, 1) := by decide +kernel
theorem dX3_costOf_22 : decode cX3_costOf 22 = .ok (.aload_n 0, 1) := by decide +kernel
theorem dX3_costOf_23 : decode cX3_costOf 23 = .ok (.getfield 30, 3) := by decide +kernel
theorem dX3_costOf_26 : decode cX3_costOf 26 = .ok (.iload_n 1, 1) := by decide +kernel
theorem dX3_costOf_27 : decode cX3_costOf 27 = .ok (.invokevirtual 44, 3) := by decide +kernel
theorem dX3_costOf_30 : decode cX3_costOf 30 = .ok (.iadd, 1) := by decide +kernel
theorem dX3_costOf_31 : decode cX3_costOf 31 = .ok (.ireturn, 1) := by decide +kernel
theorem dX3_takeMinutes_0 : decode cX3_takeMinutes 0 = .ok (.iconst 0, 1) := by decide +kernel
theorem dX3_takeMinutes_1 : decode cX3_takeMinutes 1 = .ok (.istore_n 3, 1) := by decide +kernel
theorem dX3_takeMinutes_2 : decode cX3_takeMinutes 2 = .ok (.iload_n 3, 1) := by decide +kernel
theorem dX3_takeMinutes_3 : decode cX3_takeMinutes 3 = .ok (.iload_n 2, 1) := by decide +kernel
theorem dX3_takeMinutes_4 : decode cX3_takeMinutes 4 = .ok (.if_icmp .ge 37, 3) := by decide +kernel
theorem dX3_takeMinutes_7 : decode cX3_takeMinutes 7 = .ok (.aload_n 0, 1) := by decide +kernel
theorem dX3_takeMinutes_8 : decode cX3_takeMinutes 8 = .ok (.getfield 9, 3) := by decide +kernel
theorem dX3_takeMinutes_11 : decode cX3_takeMinutes 11 = .ok (.iload_n 3, 1) := by decide +kernel
theorem dX3_takeMinutes_12 : decode cX3_takeMinutes 12 = .ok (.iload_n 1, 1) := by decide +kernel
theorem dX3_takeMinutes_13 : decode cX3_takeMinutes 13 = .ok (.bipush 7, 2) := by decide +kernel
theorem dX3_takeMinutes_15 : decode cX3_takeMinutes 15 = .ok (.iload_n 3, 1) := by decide +kernel
theorem dX3_takeMinutes_16 : decode cX3_takeMinutes 16 = .ok (.imul, 1) := by decide +kernel
theorem dX3_takeMinutes_17 : decode cX3_takeMinutes 17 = .ok (.ishr, 1) := by decide +kernel
theorem dX3_takeMinutes_18 : decode cX3_takeMinutes 18 = .ok (.bipush 127, 2) := by decide +kernel
theorem dX3_takeMinutes_20 : decode cX3_takeMinutes 20 = .ok (.iand, 1) := by decide +kernel
theorem dX3_takeMinutes_21 : decode cX3_takeMinutes 21 = .ok (.iastore, 1) := by decide +kernel
theorem dX3_takeMinutes_22 : decode cX3_takeMinutes 22 = .ok (.aload_n 0, 1) := by decide +kernel
theorem dX3_takeMinutes_23 : decode cX3_takeMinutes 23 = .ok (.getfield 9, 3) := by decide +kernel
theorem dX3_takeMinutes_26 : decode cX3_takeMinutes 26 = .ok (.iload_n 3, 1) := by decide +kernel
theorem dX3_takeMinutes_27 : decode cX3_takeMinutes 27 = .ok (.iaload, 1) := by decide +kernel
theorem dX3_takeMinutes_28 : decode cX3_takeMinutes 28 = .ok (.bipush 99, 2) := by decide +kernel
theorem dX3_takeMinutes_30 : decode cX3_takeMinutes 30 = .ok (.if_icmp .le 5, 3) := by decide +kernel
theorem dX3_takeMinutes_33 : decode cX3_takeMinutes 33 = .ok (.iconst 0, 1) := by decide +kernel
theorem dX3_takeMinutes_34 : decode cX3_takeMinutes 34 = .ok (.ireturn, 1) := by decide +kernel
theorem dX3_takeMinutes_35 : decode cX3_takeMinutes 35 = .ok (.iinc 3 1, 3) := by decide +kernel
theorem dX3_takeMinutes_38 : decode cX3_takeMinutes 38 = .ok (.goto (-36), 3) := by decide +kernel
theorem dX3_takeMinutes_41 : decode cX3_takeMinutes 41 = .ok (.iconst 1, 1) := by decide +kernel
theorem dX3_takeMinutes_42 : decode cX3_takeMinutes 42 = .ok (.ireturn, 1) := by decide +kernel
theorem dX3_takeRooms_0 : decode cX3_takeRooms 0 = .ok (.iconst 0, 1) := by decide +kernel
theorem dX3_takeRooms_1 : decode cX3_takeRooms 1 = .ok (.istore_n 3, 1) := by decide +kernel
theorem dX3_takeRooms_2 : decode cX3_takeRooms 2 = .ok (.iload_n 3, 1) := by decide +kernel
theorem dX3_takeRooms_3 : decode cX3_takeRooms 3 = .ok (.iload_n 2, 1) := by decide +kernel
theorem dX3_takeRooms_4 : decode cX3_takeRooms 4 = .ok (.if_icmp .ge 36, 3) := by decide +kernel
theorem dX3_takeRooms_7 : decode cX3_takeRooms 7 = .ok (.aload_n 0, 1) := by decide +kernel
theorem dX3_takeRooms_8 : decode cX3_takeRooms 8 = .ok (.getfield 15, 3) := by decide +kernel
theorem dX3_takeRooms_11 : decode cX3_takeRooms 11 = .ok (.iload_n 3, 1) := by decide +kernel
theorem dX3_takeRooms_12 : decode cX3_takeRooms 12 = .ok (.iload_n 1, 1) := by decide +kernel
theorem dX3_takeRooms_13 : decode cX3_takeRooms 13 = .ok (.iconst 4, 1) := by decide +kernel
theorem dX3_takeRooms_14 : decode cX3_takeRooms 14 = .ok (.iload_n 3, 1) := by decide +kernel
theorem dX3_takeRooms_15 : decode cX3_takeRooms 15 = .ok (.imul, 1) := by decide +kernel
theorem dX3_takeRooms_16 : decode cX3_takeRooms 16 = .ok (.ishr, 1) := by decide +kernel
theorem dX3_takeRooms_17 : decode cX3_takeRooms 17 = .ok (.bipush 15, 2) := by decide +kernel
theorem dX3_takeRooms_19 : decode cX3_takeRooms 19 = .ok (.iand, 1) := by decide +kernel
theorem dX3_takeRooms_20 : decode cX3_takeRooms 20 = .ok (.iastore, 1) := by decide +kernel
theorem dX3_takeRooms_21 : decode cX3_takeRooms 21 = .ok (.aload_n 0, 1) := by decide +kernel
theorem dX3_takeRooms_22 : decode cX3_takeRooms 22 = .ok (.getfield 15, 3) := by decide +kernel
theorem dX3_takeRooms_25 : decode cX3_takeRooms 25 = .ok (.iload_n 3, 1) := by decide +kernel
theorem dX3_takeRooms_26 : decode cX3_takeRooms 26 = .ok (.iaload, 1) := by decide +kernel
theorem dX3_takeRooms_27 : decode cX3_takeRooms 27 = .ok (.bipush 8, 2) := by decide +kernel
theorem dX3_takeRooms_29 : decode cX3_takeRooms 29 = .ok (.if_icmp .le 5, 3) := by decide +kernel
theorem dX3_takeRooms_32 : decode cX3_takeRooms 32 = .ok (.iconst 0, 1) := by decide +kernel
theorem dX3_takeRooms_33 : decode cX3_takeRooms 33 = .ok (.ireturn, 1) := by decide +kernel
theorem dX3_takeRooms_34 : decode cX3_takeRooms 34 = .ok (.iinc 3 1, 3) := by decide +kernel
theorem dX3_takeRooms_37 : decode cX3_takeRooms 37 = .ok (.goto (-35), 3) := by decide +kernel
theorem dX3_takeRooms_40 : decode cX3_takeRooms 40 = .ok (.iconst 1, 1) := by decide +kernel
theorem dX3_takeRooms_41 : decode cX3_takeRooms 41 = .ok (.ireturn, 1) := by decide +kernel
set_option maxRecDepth 20000 in
theorem ggX3_strengthBehindTrial_X3_prepare : GoodIn wsX3_strengthBehindTrial wsX3_prepare := goodIn_r _ [7, 8, 9, 2, 10, 11, 12, 13, 14, 15, 16, 17, 18, 19, 20, 21, 22, 23, 24, 25, 26, 27, 28, 29, 30, 31, 32, 33, 34, 35, 36, 37, 38, 39, 40, 41, 42, 6, 43, 44, 45, 46, 47, 48, 49, 50, 51, 52, 53, 54, 89, 90, 91, 92, 93, 94, 95, 96, 97, 98, 99, 100, 101, 102, 103, 104, 105, 106, 107, 108, 109, 110, 111, 112, 113] (by decide +kernel) (by decide +kernel)
set_option maxRecDepth 20000 in
theorem gX3_strengthBehindTrial_X3_prepare : GoodIn wsX3_strengthBehindTrial (wsV RX3 50 RX3 yX3_prepare wsX3_prepare) := goodIn_app (goodIn_of _ (by decide +kernel)) ggX3_strengthBehindTrial_X3_prepare
set_option maxRecDepth 20000 in
theorem ggX3_strengthBehindTrial_X9_isRoom : GoodIn wsX3_strengthBehindTrial wsX9_isRoom := goodIn_r _ [57, 58, 59, 56, 60] (by decide +kernel) (by decide +kernel)
set_option maxRecDepth 20000 in
theorem gX3_strengthBehindTrial_X9_isRoom_n53 : GoodIn wsX3_strengthBehindTrial (wsX9_isRoom) := ggX3_strengthBehindTrial_X9_isRoom
set_option maxRecDepth 20000 in
theorem ggX3_strengthBehindTrial_X3_walkable : GoodIn wsX3_strengthBehindTrial wsX3_walkable := goodIn_r _ [64, 9, 65, 89, 90, 91, 92, 93, 94, 95, 96, 97] (by decide +kernel) (by decide +kernel)
set_option maxRecDepth 20000 in
theorem gX3_strengthBehindTrial_X3_walkable : GoodIn wsX3_strengthBehindTrial (wsV RX3 57 RX3 yX3_walkable wsX3_walkable) := goodIn_app (goodIn_of _ (by decide +kernel)) ggX3_strengthBehindTrial_X3_walkable
set_option maxRecDepth 20000 in
theorem ggX3_strengthBehindTrial_X3_strengthOfRoom : GoodIn wsX3_strengthBehindTrial wsX3_strengthOfRoom := goodIn_r _ [69, 8, 70, 71, 72, 13, 73, 74, 15, 75, 76, 77, 78, 79, 80, 81, 82, 83, 84, 85, 86, 87, 88, 89, 90, 91, 92, 93, 94, 95, 96, 97, 98, 99, 100, 101, 102, 103, 104, 105, 106, 107, 108, 109, 110] (by decide +kernel) (by decide +kernel)
set_option maxRecDepth 20000 in
theorem gX3_strengthBehindTrial_X3_strengthOfRoom : GoodIn wsX3_strengthBehindTrial (wsV RX3 61 RX3 yX3_strengthOfRoom wsX3_strengthOfRoom) := goodIn_app (goodIn_of _ (by decide +kernel)) ggX3_strengthBehindTrial_X3_strengthOfRoom
theorem dX3_strengthBehindTrial_0 : decode cX3_strengthBehindTrial 0 = .ok (.aload_n 0, 1) := by decide +kernel
theorem dX3_strengthBehindTrial_1 : decode cX3_strengthBehindTrial 1 = .ok (.invokevirtual 50, 3) := by decide +kernel
theorem dX3_strengthBehindTrial_4 : decode cX3_strengthBehindTrial 4 = .ok (.iconst 0, 1) := by decide +kernel
theorem dX3_strengthBehindTrial_5 : decode cX3_strengthBehindTrial 5 = .ok (.istore_n 2, 1) := by decide +kernel
theorem dX3_strengthBehindTrial_6 : decode cX3_strengthBehindTrial 6 = .ok (.iload_n 2, 1) := by decide +kernel
theorem dX3_strengthBehindTrial_7 : decode cX3_strengthBehindTrial 7 = .ok (.iload_n 1, 1) := by decide +kernel
theorem dX3_strengthBehindTrial_8 : decode cX3_strengthBehindTrial 8 = .ok (.if_icmp .ge 46, 3) := by decide +kernel
theorem dX3_strengthBehindTrial_11 : decode cX3_strengthBehindTrial 11 = .ok (.aload_n 0, 1) := by decide +kernel
theorem dX3_strengthBehindTrial_12 : decode cX3_strengthBehindTrial 12 = .ok (.getfield 15, 3) := by decide +kernel
theorem dX3_strengthBehindTrial_15 : decode cX3_strengthBehindTrial 15 = .ok (.iload_n 2, 1) := by decide +kernel
theorem dX3_strengthBehindTrial_16 : decode cX3_strengthBehindTrial 16 = .ok (.iaload, 1) := by decide +kernel
theorem dX3_strengthBehindTrial_17 : decode cX3_strengthBehindTrial 17 = .ok (.istore_n 3, 1) := by decide +kernel
theorem dX3_strengthBehindTrial_18 : decode cX3_strengthBehindTrial 18 = .ok (.iload_n 3, 1) := by decide +kernel
theorem dX3_strengthBehindTrial_19 : decode cX3_strengthBehindTrial 19 = .ok (.invokestatic 53, 3) := by decide +kernel
theorem dX3_strengthBehindTrial_22 : decode cX3_strengthBehindTrial 22 = .ok (.ifCond .eq 26, 3) := by decide +kernel
theorem dX3_strengthBehindTrial_25 : decode cX3_strengthBehindTrial 25 = .ok (.aload_n 0, 1) := by decide +kernel
theorem dX3_strengthBehindTrial_26 : decode cX3_strengthBehindTrial 26 = .ok (.iload_n 3, 1) := by decide +kernel
theorem dX3_strengthBehindTrial_27 : decode cX3_strengthBehindTrial 27 = .ok (.iload_n 2, 1) := by decide +kernel
theorem dX3_strengthBehindTrial_28 : decode cX3_strengthBehindTrial 28 = .ok (.invokevirtual 57, 3) := by decide +kernel
theorem dX3_strengthBehindTrial_31 : decode cX3_strengthBehindTrial 31 = .ok (.ifCond .ne 5, 3) := by decide +kernel
theorem dX3_strengthBehindTrial_34 : decode cX3_strengthBehindTrial 34 = .ok (.iconst (-1), 1) := by decide +kernel
theorem dX3_strengthBehindTrial_35 : decode cX3_strengthBehindTrial 35 = .ok (.ireturn, 1) := by decide +kernel
theorem dX3_strengthBehindTrial_36 : decode cX3_strengthBehindTrial 36 = .ok (.aload_n 0, 1) := by decide +kernel
theorem dX3_strengthBehindTrial_37 : decode cX3_strengthBehindTrial 37 = .ok (.getfield 21, 3) := by decide +kernel
theorem dX3_strengthBehindTrial_40 : decode cX3_strengthBehindTrial 40 = .ok (.iload_n 3, 1) := by decide +kernel
theorem dX3_strengthBehindTrial_41 : decode cX3_strengthBehindTrial 41 = .ok (.dup2, 1) := by decide +kernel
theorem dX3_strengthBehindTrial_42 : decode cX3_strengthBehindTrial 42 = .ok (.iaload, 1) := by decide +kernel
theorem dX3_strengthBehindTrial_43 : decode cX3_strengthBehindTrial 43 = .ok (.iconst 1, 1) := by decide +kernel
theorem dX3_strengthBehindTrial_44 : decode cX3_strengthBehindTrial 44 = .ok (.iload_n 2, 1) := by decide +kernel
theorem dX3_strengthBehindTrial_45 : decode cX3_strengthBehindTrial 45 = .ok (.ishl, 1) := by decide +kernel
theorem dX3_strengthBehindTrial_46 : decode cX3_strengthBehindTrial 46 = .ok (.ior, 1) := by decide +kernel
theorem dX3_strengthBehindTrial_47 : decode cX3_strengthBehindTrial 47 = .ok (.iastore, 1) := by decide +kernel
theorem dX3_strengthBehindTrial_48 : decode cX3_strengthBehindTrial 48 = .ok (.iinc 2 1, 3) := by decide +kernel
theorem dX3_strengthBehindTrial_51 : decode cX3_strengthBehindTrial 51 = .ok (.goto (-45), 3) := by decide +kernel
theorem dX3_strengthBehindTrial_54 : decode cX3_strengthBehindTrial 54 = .ok (.iconst 0, 1) := by decide +kernel
theorem dX3_strengthBehindTrial_55 : decode cX3_strengthBehindTrial 55 = .ok (.istore_n 2, 1) := by decide +kernel
theorem dX3_strengthBehindTrial_56 : decode cX3_strengthBehindTrial 56 = .ok (.iconst 0, 1) := by decide +kernel
theorem dX3_strengthBehindTrial_57 : decode cX3_strengthBehindTrial 57 = .ok (.istore_n 3, 1) := by decide +kernel
theorem dX3_strengthBehindTrial_58 : decode cX3_strengthBehindTrial 58 = .ok (.iload_n 3, 1) := by decide +kernel
theorem dX3_strengthBehindTrial_59 : decode cX3_strengthBehindTrial 59 = .ok (.bipush 8, 2) := by decide +kernel
theorem dX3_strengthBehindTrial_61 : decode cX3_strengthBehindTrial 61 = .ok (.if_icmp .ge 24, 3) := by decide +kernel
theorem dX3_strengthBehindTrial_64 : decode cX3_strengthBehindTrial 64 = .ok (.iload_n 2, 1) := by decide +kernel
theorem dX3_strengthBehindTrial_65 : decode cX3_strengthBehindTrial 65 = .ok (.aload_n 0, 1) := by decide +kernel
theorem dX3_strengthBehindTrial_66 : decode cX3_strengthBehindTrial 66 = .ok (.iload_n 3, 1) := by decide +kernel
theorem dX3_strengthBehindTrial_67 : decode cX3_strengthBehindTrial 67 = .ok (.iload_n 1, 1) := by decide +kernel
theorem dX3_strengthBehindTrial_68 : decode cX3_strengthBehindTrial 68 = .ok (.aload_n 0, 1) := by decide +kernel
theorem dX3_strengthBehindTrial_69 : decode cX3_strengthBehindTrial 69 = .ok (.getfield 21, 3) := by decide +kernel
theorem dX3_strengthBehindTrial_72 : decode cX3_strengthBehindTrial 72 = .ok (.iload_n 3, 1) := by decide +kernel
theorem dX3_strengthBehindTrial_73 : decode cX3_strengthBehindTrial 73 = .ok (.iaload, 1) := by decide +kernel
theorem dX3_strengthBehindTrial_74 : decode cX3_strengthBehindTrial 74 = .ok (.invokevirtual 61, 3) := by decide +kernel
theorem dX3_strengthBehindTrial_77 : decode cX3_strengthBehindTrial 77 = .ok (.iadd, 1) := by decide +kernel
theorem dX3_strengthBehindTrial_78 : decode cX3_strengthBehindTrial 78 = .ok (.istore_n 2, 1) := by decide +kernel
theorem dX3_strengthBehindTrial_79 : decode cX3_strengthBehindTrial 79 = .ok (.iinc 3 1, 3) := by decide +kernel
theorem dX3_strengthBehindTrial_82 : decode cX3_strengthBehindTrial 82 = .ok (.goto (-24), 3) := by decide +kernel
theorem dX3_strengthBehindTrial_85 : decode cX3_strengthBehindTrial 85 = .ok (.iload_n 2, 1) := by decide +kernel
theorem dX3_strengthBehindTrial_86 : decode cX3_strengthBehindTrial 86 = .ok (.ireturn, 1) := by decide +kernel
set_option maxRecDepth 20000 in
theorem ggX3_findBest_X3_prepare : GoodIn wsX3_findBest wsX3_prepare := goodIn_r _ [7, 8, 9, 10, 11, 12, 13, 14, 15, 16, 17, 18, 19, 20, 21, 22, 23, 24, 25, 26, 27, 28, 29, 30, 31, 32, 33, 34, 35, 36, 37, 38, 39, 40, 41, 42, 43, 6, 44, 45, 46, 47, 48, 49, 50, 51, 52, 53, 54, 55, 98, 99, 100, 101, 102, 103, 104, 105, 106, 107, 108, 109, 110, 111, 112, 113, 114, 115, 116, 117, 118, 119, 120, 121, 122] (by decide +kernel) (by decide +kernel)
set_option maxRecDepth 20000 in
theorem gX3_findBest_X3_prepare : GoodIn wsX3_findBest (wsV RX3 50 RX3 yX3_prepare wsX3_prepare) := goodIn_app (goodIn_of _ (by decide +kernel)) ggX3_findBest_X3_prepare
set_option maxRecDepth 20000 in
theorem ggX3_findBest_X3_strengthOfRoom : GoodIn wsX3_findBest wsX3_strengthOfRoom := goodIn_r _ [59, 8, 60, 61, 62, 14, 63, 64, 16, 65, 66, 67, 68, 69, 70, 71, 72, 73, 74, 75, 76, 77, 78, 98, 99, 100, 101, 102, 103, 104, 105, 106, 107, 108, 109, 110, 111, 112, 113, 114, 115, 116, 117, 118, 119] (by decide +kernel) (by decide +kernel)
set_option maxRecDepth 20000 in
theorem gX3_findBest_X3_strengthOfRoom : GoodIn wsX3_findBest (wsV RX3 61 RX3 yX3_strengthOfRoom wsX3_strengthOfRoom) := goodIn_app (goodIn_of _ (by decide +kernel)) ggX3_findBest_X3_strengthOfRoom
set_option maxRecDepth 20000 in
theorem ggX3_findBest_X3_seek : GoodIn wsX3_findBest wsX3_seek := goodIn_r _ [82, 10, 1, 83, 84, 85, 86, 6, 87, 2, 88, 89, 90, 91, 92, 93, 94, 95, 96, 9, 97, 79, 80, 81, 98, 99, 100, 101, 102, 103, 104, 105, 106] (by decide +kernel) (by decide +kernel)
set_option maxRecDepth 20000 in
theorem gX3_findBest_X3_seek : GoodIn wsX3_findBest (wsV RX3 69 RX3 yX3_seek wsX3_seek) := goodIn_app (goodIn_of _ (by decide +kernel)) ggX3_findBest_X3_seek
theorem dX3_findBest_0 : decode cX3_findBest 0 = .ok (.aload_n 0, 1) := by decide +kernel
theorem dX3_findBest_1 : decode cX3_findBest 1 = .ok (.invokevirtual 50, 3) := by decide +kernel
theorem dX3_findBest_4 : decode cX3_findBest 4 = .ok (.iconst 0, 1) := by decide +kernel
theorem dX3_findBest_5 : decode cX3_findBest 5 = .ok (.istore_n 2, 1) := by decide +kernel
theorem dX3_findBest_6 : decode cX3_findBest 6 = .ok (.iconst 0, 1) := by decide +kernel
theorem dX3_findBest_7 : decode cX3_findBest 7 = .ok (.istore_n 3, 1) := by decide +kernel
theorem dX3_findBest_8 : decode cX3_findBest 8 = .ok (.iload_n 3, 1) := by decide +kernel
theorem dX3_findBest_9 : decode cX3_findBest 9 = .ok (.bipush 8, 2) := by decide +kernel
theorem dX3_findBest_11 : decode cX3_findBest 11 = .ok (.if_icmp .ge 58, 3) := by decide +kernel
theorem dX3_findBest_14 : decode cX3_findBest 14 = .ok (.iconst 0, 1) := by decide +kernel
theorem dX3_findBest_15 : decode cX3_findBest 15 = .ok (.istore 4, 2) := by decide +kernel
theorem dX3_findBest_17 : decode cX3_findBest 17 = .ok (.iload 4, 2) := by decide +kernel
theorem dX3_findBest_19 : decode cX3_findBest 19 = .ok (.iconst 1, 1) := by decide +kernel
theorem dX3_findBest_20 : decode cX3_findBest 20 = .ok (.iload_n 1, 1) := by decide +kernel
theorem dX3_findBest_21 : decode cX3_findBest 21 = .ok (.ishl, 1) := by decide +kernel
theorem dX3_findBest_22 : decode cX3_findBest 22 = .ok (.if_icmp .ge 29, 3) := by decide +kernel
theorem dX3_findBest_25 : decode cX3_findBest 25 = .ok (.aload_n 0, 1) := by decide +kernel
theorem dX3_findBest_26 : decode cX3_findBest 26 = .ok (.getfield 27, 3) := by decide +kernel
theorem dX3_findBest_29 : decode cX3_findBest 29 = .ok (.iload_n 3, 1) := by decide +kernel
theorem dX3_findBest_30 : decode cX3_findBest 30 = .ok (.bipush 16, 2) := by decide +kernel
theorem dX3_findBest_32 : decode cX3_findBest 32 = .ok (.imul, 1) := by decide +kernel
theorem dX3_findBest_33 : decode cX3_findBest 33 = .ok (.iload 4, 2) := by decide +kernel
theorem dX3_findBest_35 : decode cX3_findBest 35 = .ok (.iadd, 1) := by decide +kernel
theorem dX3_findBest_36 : decode cX3_findBest 36 = .ok (.aload_n 0, 1) := by decide +kernel
theorem dX3_findBest_37 : decode cX3_findBest 37 = .ok (.iload_n 3, 1) := by decide +kernel
theorem dX3_findBest_38 : decode cX3_findBest 38 = .ok (.iload_n 1, 1) := by decide +kernel
theorem dX3_findBest_39 : decode cX3_findBest 39 = .ok (.iload 4, 2) := by decide +kernel
theorem dX3_findBest_41 : decode cX3_findBest 41 = .ok (.invokevirtual 61, 3) := by decide +kernel
theorem dX3_findBest_44 : decode cX3_findBest 44 = .ok (.iastore, 1) := by decide +kernel
theorem dX3_findBest_45 : decode cX3_findBest 45 = .ok (.iinc 4 1, 3) := by decide +kernel
theorem dX3_findBest_48 : decode cX3_findBest 48 = .ok (.goto (-31), 3) := by decide +kernel
theorem dX3_findBest_51 : decode cX3_findBest 51 = .ok (.iload_n 2, 1) := by decide +kernel
theorem dX3_findBest_52 : decode cX3_findBest 52 = .ok (.aload_n 0, 1) := by decide +kernel
theorem dX3_findBest_53 : decode cX3_findBest 53 = .ok (.getfield 27, 3) := by decide +kernel
theorem dX3_findBest_56 : decode cX3_findBest 56 = .ok (.iload_n 3, 1) := by decide +kernel
theorem dX3_findBest_57 : decode cX3_findBest 57 = .ok (.bipush 16, 2) := by decide +kernel
theorem dX3_findBest_59 : decode cX3_findBest 59 = .ok (.imul, 1) := by decide +kernel
theorem dX3_findBest_60 : decode cX3_findBest 60 = .ok (.iaload, 1) := by decide +kernel
theorem dX3_findBest_61 : decode cX3_findBest 61 = .ok (.iadd, 1) := by decide +kernel
theorem dX3_findBest_62 : decode cX3_findBest 62 = .ok (.istore_n 2, 1) := by decide +kernel
theorem dX3_findBest_63 : decode cX3_findBest 63 = .ok (.iinc 3 1, 3) := by decide +kernel
theorem dX3_findBest_66 : decode cX3_findBest 66 = .ok (.goto (-58), 3) := by decide +kernel
theorem dX3_findBest_69 : decode cX3_findBest 69 = .ok (.aload_n 0, 1) := by decide +kernel
theorem dX3_findBest_70 : decode cX3_findBest 70 = .ok (.iconst (-1), 1) := by decide +kernel
theorem dX3_findBest_71 : decode cX3_findBest 71 = .ok (.putfield 65, 3) := by decide +kernel
theorem dX3_findBest_74 : decode cX3_findBest 74 = .ok (.aload_n 0, 1) := by decide +kernel
theorem dX3_findBest_75 : decode cX3_findBest 75 = .ok (.iconst 0, 1) := by decide +kernel
theorem dX3_findBest_76 : decode cX3_findBest 76 = .ok (.iload_n 1, 1) := by decide +kernel
theorem dX3_findBest_77 : decode cX3_findBest 77 = .ok (.iload_n 2, 1) := by decide +kernel
theorem dX3_findBest_78 : decode cX3_findBest 78 = .ok (.invokevirtual 69, 3) := by decide +kernel
theorem dX3_findBest_81 : decode cX3_findBest 81 = .ok (.return_, 1) := by decide +kernel
set_option maxRecDepth 20000 in
theorem ggX3_prepare_X1_countCrowds : GoodIn wsX3_prepare wsX1_countCrowds := goodIn_r _ [8, 9, 10, 11, 12, 7, 13, 14, 15, 16, 17, 18, 19, 20, 21, 22, 23, 24, 25, 26, 27, 28, 29, 30, 31, 32, 33, 59, 60, 61, 62, 63, 64, 65, 66, 67, 68, 69, 70, 71, 72] (by decide +kernel) (by decide +kernel)
set_option maxRecDepth 20000 in
theorem gX3_prepare_X1_countCrowds : GoodIn wsX3_prepare (wsV RX3 73 RX1 yX1_countCrowds wsX1_countCrowds) := goodIn_app (goodIn_of _ (by decide +kernel)) ggX3_prepare_X1_countCrowds
set_option maxRecDepth 20000 in
theorem ggX3_prepare_X3_costOf : GoodIn wsX3_prepare wsX3_costOf := goodIn_r _ [38, 39, 1, 40, 41, 42, 43, 44, 45, 46, 47, 48, 7, 49, 14, 50, 51, 52, 53, 54, 55, 56, 57, 58, 73, 74, 59, 60, 61, 62, 63, 64, 65, 66, 67, 68, 69, 70, 71] (by decide +kernel) (by decide +kernel)
set_option maxRecDepth 20000 in
theorem gX3_prepare_X3_costOf : GoodIn wsX3_prepare (wsV RX3 76 RX3 yX3_costOf wsX3_costOf) := goodIn_app (goodIn_of _ (by decide +kernel)) ggX3_prepare_X3_costOf
theorem dX3_prepare_0 : decode cX3_prepare 0 = .ok (.aload_n 0, 1) := by decide +kernel
theorem dX3_prepare_1 : decode cX3_prepare 1 = .ok (.getfield 30, 3) := by decide +kernel
theorem dX3_prepare_4 : decode cX3_prepare 4 = .ok (.invokevirtual 73, 3) := by decide +kernel
theorem dX3_prepare_7 : decode cX3_prepare 7 = .ok (.iconst 0, 1) := by decide +kernel
theorem dX3_prepare_8 : decode cX3_prepare 8 = .ok (.istore_n 1, 1) := by decide +kernel
theorem dX3_prepare_9 : decode cX3_prepare 9 = .ok (.iload_n 1, 1) := by decide +kernel
theorem dX3_prepare_10 : decode cX3_prepare 10 = .ok (.bipush 8, 2) := by decide +kernel
theorem dX3_prepare_12 : decode cX3_prepare 12 = .ok (.if_icmp .ge 27, 3) := by decide +kernel
theorem dX3_prepare_15 : decode cX3_prepare 15 = .ok (.aload_n 0, 1) := by decide +kernel
theorem dX3_prepare_16 : decode cX3_prepare 16 = .ok (.getfield 24, 3) := by decide +kernel
theorem dX3_prepare_19 : decode cX3_prepare 19 = .ok (.iload_n 1, 1) := by decide +kernel
theorem dX3_prepare_20 : decode cX3_prepare 20 = .ok (.aload_n 0, 1) := by decide +kernel
theorem dX3_prepare_21 : decode cX3_prepare 21 = .ok (.iload_n 1, 1) := by decide +kernel
theorem dX3_prepare_22 : decode cX3_prepare 22 = .ok (.invokevirtual 76, 3) := by decide +kernel
theorem dX3_prepare_25 : decode cX3_prepare 25 = .ok (.iastore, 1) := by decide +kernel
theorem dX3_prepare_26 : decode cX3_prepare 26 = .ok (.aload_n 0, 1) := by decide +kernel
theorem dX3_prepare_27 : decode cX3_prepare 27 = .ok (.getfield 21, 3) := by decide +kernel
theorem dX3_prepare_30 : decode cX3_prepare 30 = .ok (.iload_n 1, 1) := by decide +kernel
theorem dX3_prepare_31 : decode cX3_prepare 31 = .ok (.iconst 0, 1) := by decide +kernel
theorem dX3_prepare_32 : decode cX3_prepare 32 = .ok (.iastore, 1) := by decide +kernel
theorem dX3_prepare_33 : decode cX3_prepare 33 = .ok (.iinc 1 1, 3) := by decide +kernel
theorem dX3_prepare_36 : decode cX3_prepare 36 = .ok (.goto (-27), 3) := by decide +kernel
theorem dX3_prepare_39 : decode cX3_prepare 39 = .ok (.return_, 1) := by decide +kernel
theorem dX3_walkable_0 : decode cX3_walkable 0 = .ok (.aload_n 0, 1) := by decide +kernel
theorem dX3_walkable_1 : decode cX3_walkable 1 = .ok (.getfield 24, 3) := by decide +kernel
theorem dX3_walkable_4 : decode cX3_walkable 4 = .ok (.iload_n 1, 1) := by decide +kernel
theorem dX3_walkable_5 : decode cX3_walkable 5 = .ok (.iaload, 1) := by decide +kernel
theorem dX3_walkable_6 : decode cX3_walkable 6 = .ok (.iconst (-1), 1) := by decide +kernel
theorem dX3_walkable_7 : decode cX3_walkable 7 = .ok (.if_icmp .eq 22, 3) := by decide +kernel
theorem dX3_walkable_10 : decode cX3_walkable 10 = .ok (.aload_n 0, 1) := by decide +kernel
theorem dX3_walkable_11 : decode cX3_walkable 11 = .ok (.getfield 24, 3) := by decide +kernel
theorem dX3_walkable_14 : decode cX3_walkable 14 = .ok (.iload_n 1, 1) := by decide +kernel
theorem dX3_walkable_15 : decode cX3_walkable 15 = .ok (.iaload, 1) := by decide +kernel
theorem dX3_walkable_16 : decode cX3_walkable 16 = .ok (.aload_n 0, 1) := by decide +kernel
theorem dX3_walkable_17 : decode cX3_walkable 17 = .ok (.getfield 9, 3) := by decide +kernel
theorem dX3_walkable_20 : decode cX3_walkable 20 = .ok (.iload_n 2, 1) := by decide +kernel
theorem dX3_walkable_21 : decode cX3_walkable 21 = .ok (.iaload, 1) := by decide +kernel
theorem dX3_walkable_22 : decode cX3_walkable 22 = .ok (.if_icmp .gt 7, 3) := by decide +kernel
theorem dX3_walkable_25 : decode cX3_walkable 25 = .ok (.iconst 1, 1) := by decide +kernel
theorem dX3_walkable_26 : decode cX3_walkable 26 = .ok (.goto 4, 3) := by decide +kernel
theorem dX3_walkable_29 : decode cX3_walkable 29 = .ok (.iconst 0, 1) := by decide +kernel
theorem dX3_walkable_30 : decode cX3_walkable 30 = .ok (.ireturn, 1) := by decide +kernel
set_option maxRecDepth 20000 in
theorem ggX3_strengthOfRoom_X1_strengthBehind : GoodIn wsX3_strengthOfRoom wsX1_strengthBehind := goodIn_r _ [6, 7, 8, 9, 10, 11, 5, 12, 13, 14, 15, 16, 17, 18, 19, 20, 21, 22, 32, 33, 34, 35, 36, 37, 38, 39, 40, 41, 42, 43, 44] (by decide +kernel) (by decide +kernel)
set_option maxRecDepth 20000 in
theorem gX3_strengthOfRoom_X1_strengthBehind : GoodIn wsX3_strengthOfRoom (wsV RX3 82 RX1 yX1_strengthBehind wsX1_strengthBehind) := goodIn_app (goodIn_of _ (by decide +kernel)) ggX3_strengthOfRoom_X1_strengthBehind
theorem dX3_strengthOfRoom_0 : decode cX3_strengthOfRoom 0 = .ok (.iconst 0, 1) := by decide +kernel
theorem dX3_strengthOfRoom_1 : decode cX3_strengthOfRoom 1 = .ok (.istore 4, 2) := by decide +kernel
theorem dX3_strengthOfRoom_3 : decode cX3_strengthOfRoom 3 = .ok (.iload_n 1, 1) := by decide +kernel
theorem dX3_strengthOfRoom_4 : decode cX3_strengthOfRoom 4 = .ok (.bipush 6, 2) := by decide +kernel
theorem dX3_strengthOfRoom_6 : decode cX3_strengthOfRoom 6 = .ok (.imul, 1) := by decide +kernel
theorem dX3_strengthOfRoom_7 : decode cX3_strengthOfRoom 7 = .ok (.istore 5, 2) := by decide +kernel
theorem dX3_strengthOfRoom_9 : decode cX3_strengthOfRoom 9 = .ok (.iload 5, 2) := by decide +kernel
theorem dX3_strengthOfRoom_11 : decode cX3_strengthOfRoom 11 = .ok (.istore 6, 2) := by decide +kernel
theorem dX3_strengthOfRoom_13 : decode cX3_strengthOfRoom 13 = .ok (.iload 6, 2) := by decide +kernel
theorem dX3_strengthOfRoom_15 : decode cX3_strengthOfRoom 15 = .ok (.iload 5, 2) := by decide +kernel
theorem dX3_strengthOfRoom_17 : decode cX3_strengthOfRoom 17 = .ok (.bipush 6, 2) := by decide +kernel
theorem dX3_strengthOfRoom_19 : decode cX3_strengthOfRoom 19 = .ok (.iadd, 1) := by decide +kernel
theorem dX3_strengthOfRoom_20 : decode cX3_strengthOfRoom 20 = .ok (.if_icmp .ge 39, 3) := by decide +kernel
theorem dX3_strengthOfRoom_23 : decode cX3_strengthOfRoom 23 = .ok (.aload_n 0, 1) := by decide +kernel
theorem dX3_strengthOfRoom_24 : decode cX3_strengthOfRoom 24 = .ok (.getfield 30, 3) := by decide +kernel
theorem dX3_strengthOfRoom_27 : decode cX3_strengthOfRoom 27 = .ok (.getfield 79, 3) := by decide +kernel
theorem dX3_strengthOfRoom_30 : decode cX3_strengthOfRoom 30 = .ok (.iload 6, 2) := by decide +kernel
theorem dX3_strengthOfRoom_32 : decode cX3_strengthOfRoom 32 = .ok (.iaload, 1) := by decide +kernel
theorem dX3_strengthOfRoom_33 : decode cX3_strengthOfRoom 33 = .ok (.iconst (-1), 1) := by decide +kernel
theorem dX3_strengthOfRoom_34 : decode cX3_strengthOfRoom 34 = .ok (.if_icmp .eq 19, 3) := by decide +kernel
theorem dX3_strengthOfRoom_37 : decode cX3_strengthOfRoom 37 = .ok (.iload 4, 2) := by decide +kernel
theorem dX3_strengthOfRoom_39 : decode cX3_strengthOfRoom 39 = .ok (.aload_n 0, 1) := by decide +kernel
theorem dX3_strengthOfRoom_40 : decode cX3_strengthOfRoom 40 = .ok (.getfield 30, 3) := by decide +kernel
theorem dX3_strengthOfRoom_43 : decode cX3_strengthOfRoom 43 = .ok (.iload 6, 2) := by decide +kernel
theorem dX3_strengthOfRoom_45 : decode cX3_strengthOfRoom 45 = .ok (.iload_n 2, 1) := by decide +kernel
theorem dX3_strengthOfRoom_46 : decode cX3_strengthOfRoom 46 = .ok (.iload_n 3, 1) := by decide +kernel
theorem dX3_strengthOfRoom_47 : decode cX3_strengthOfRoom 47 = .ok (.invokevirtual 82, 3) := by decide +kernel
theorem dX3_strengthOfRoom_50 : decode cX3_strengthOfRoom 50 = .ok (.iadd, 1) := by decide +kernel
theorem dX3_strengthOfRoom_51 : decode cX3_strengthOfRoom 51 = .ok (.istore 4, 2) := by decide +kernel
theorem dX3_strengthOfRoom_53 : decode cX3_strengthOfRoom 53 = .ok (.iinc 6 1, 3) := by decide +kernel
theorem dX3_strengthOfRoom_56 : decode cX3_strengthOfRoom 56 = .ok (.goto (-43), 3) := by decide +kernel
theorem dX3_strengthOfRoom_59 : decode cX3_strengthOfRoom 59 = .ok (.iload 4, 2) := by decide +kernel
theorem dX3_strengthOfRoom_61 : decode cX3_strengthOfRoom 61 = .ok (.ireturn, 1) := by decide +kernel
set_option maxRecDepth 20000 in
theorem ggX3_seek_X3_keepIfStronger : GoodIn wsX3_seek wsX3_keepIfStronger := goodIn_r _ [8, 9, 3, 10, 11, 12, 13, 14, 24, 25, 26, 27, 28, 29, 30, 31, 32] (by decide +kernel) (by decide +kernel)
set_option maxRecDepth 20000 in
theorem gX3_seek_X3_keepIfStronger : GoodIn wsX3_seek (wsV RX3 85 RX3 yX3_keepIfStronger wsX3_keepIfStronger) := goodIn_app (goodIn_of _ (by decide +kernel)) ggX3_seek_X3_keepIfStronger
set_option maxRecDepth 20000 in
theorem ggX3_seek_X3_walkable : GoodIn wsX3_seek wsX3_walkable := goodIn_r _ [18, 19, 20, 24, 25, 26, 27, 28, 29, 30, 31, 32] (by decide +kernel) (by decide +kernel)
set_option maxRecDepth 20000 in
theorem gX3_seek_X3_walkable : GoodIn wsX3_seek (wsV RX3 57 RX3 yX3_walkable wsX3_walkable) := goodIn_app (goodIn_of _ (by decide +kernel)) ggX3_seek_X3_walkable
set_option maxRecDepth 20000 in
theorem ggX3_seek_X3_seek : GoodIn wsX3_seek wsX3_seek := goodIn_r _ [0, 1, 2, 3, 4, 5, 6, 7, 8, 9, 10, 11, 12, 13, 14, 15, 16, 17, 18, 19, 20, 21, 22, 23, 24, 25, 26, 27, 28, 29, 30, 31, 32] (by decide +kernel) (by decide +kernel)
set_option maxRecDepth 20000 in
theorem gX3_seek_X3_seek : GoodIn wsX3_seek (wsV RX3 69 RX3 yX3_seek wsX3_seek) := goodIn_app (goodIn_of _ (by decide +kernel)) ggX3_seek_X3_seek
theorem dX3_seek_0 : decode cX3_seek 0 = .ok (.iload_n 1, 1) := by decide +kernel
theorem dX3_seek_1 : decode cX3_seek 1 = .ok (.iload_n 2, 1) := by decide +kernel
theorem dX3_seek_2 : decode cX3_seek 2 = .ok (.if_icmp .ge 8, 3) := by decide +kernel
theorem dX3_seek_5 : decode cX3_seek 5 = .ok (.iload_n 1, 1) := by decide +kernel
theorem dX3_seek_6 : decode cX3_seek 6 = .ok (.iconst 4, 1) := by decide +kernel
theorem dX3_seek_7 : decode cX3_seek 7 = .ok (.if_icmp .lt 9, 3) := by decide +kernel
theorem dX3_seek_10 : decode cX3_seek 10 = .ok (.aload_n 0, 1) := by decide +kernel
theorem dX3_seek_11 : decode cX3_seek 11 = .ok (.iload_n 3, 1) := by decide +kernel
theorem dX3_seek_12 : decode cX3_seek 12 = .ok (.invokevirtual 85, 3) := by decide +kernel
theorem dX3_seek_15 : decode cX3_seek 15 = .ok (.return_, 1) := by decide +kernel
theorem dX3_seek_16 : decode cX3_seek 16 = .ok (.iconst 0, 1) := by decide +kernel
theorem dX3_seek_17 : decode cX3_seek 17 = .ok (.istore 4, 2) := by decide +kernel
theorem dX3_seek_19 : decode cX3_seek 19 = .ok (.iload 4, 2) := by decide +kernel
theorem dX3_seek_21 : decode cX3_seek 21 = .ok (.bipush 8, 2) := by decide +kernel
theorem dX3_seek_23 : decode cX3_seek 23 = .ok (.if_icmp .ge 103, 3) := by decide +kernel
theorem dX3_seek_26 : decode cX3_seek 26 = .ok (.aload_n 0, 1) := by decide +kernel
theorem dX3_seek_27 : decode cX3_seek 27 = .ok (.iload 4, 2) := by decide +kernel
theorem dX3_seek_29 : decode cX3_seek 29 = .ok (.iload_n 1, 1) := by decide +kernel
theorem dX3_seek_30 : decode cX3_seek 30 = .ok (.invokevirtual 57, 3) := by decide +kernel
theorem dX3_seek_33 : decode cX3_seek 33 = .ok (.ifCond .eq 87, 3) := by decide +kernel
theorem dX3_seek_36 : decode cX3_seek 36 = .ok (.aload_n 0, 1) := by decide +kernel
theorem dX3_seek_37 : decode cX3_seek 37 = .ok (.getfield 21, 3) := by decide +kernel
theorem dX3_seek_40 : decode cX3_seek 40 = .ok (.iload 4, 2) := by decide +kernel
theorem dX3_seek_42 : decode cX3_seek 42 = .ok (.iaload, 1) := by decide +kernel
theorem dX3_seek_43 : decode cX3_seek 43 = .ok (.istore 5, 2) := by decide +kernel
theorem dX3_seek_45 : decode cX3_seek 45 = .ok (.iload 5, 2) := by decide +kernel
theorem dX3_seek_47 : decode cX3_seek 47 = .ok (.iconst 1, 1) := by decide +kernel
theorem dX3_seek_48 : decode cX3_seek 48 = .ok (.iload_n 1, 1) := by decide +kernel
theorem dX3_seek_49 : decode cX3_seek 49 = .ok (.ishl, 1) := by decide +kernel
theorem dX3_seek_50 : decode cX3_seek 50 = .ok (.ior, 1) := by decide +kernel
theorem dX3_seek_51 : decode cX3_seek 51 = .ok (.istore 6, 2) := by decide +kernel
theorem dX3_seek_53 : decode cX3_seek 53 = .ok (.aload_n 0, 1) := by decide +kernel
theorem dX3_seek_54 : decode cX3_seek 54 = .ok (.getfield 27, 3) := by decide +kernel
theorem dX3_seek_57 : decode cX3_seek 57 = .ok (.iload 4, 2) := by decide +kernel
theorem dX3_seek_59 : decode cX3_seek 59 = .ok (.bipush 16, 2) := by decide +kernel
theorem dX3_seek_61 : decode cX3_seek 61 = .ok (.imul, 1) := by decide +kernel
theorem dX3_seek_62 : decode cX3_seek 62 = .ok (.iload 6, 2) := by decide +kernel
theorem dX3_seek_64 : decode cX3_seek 64 = .ok (.iadd, 1) := by decide +kernel
theorem dX3_seek_65 : decode cX3_seek 65 = .ok (.iaload, 1) := by decide +kernel
theorem dX3_seek_66 : decode cX3_seek 66 = .ok (.aload_n 0, 1) := by decide +kernel
theorem dX3_seek_67 : decode cX3_seek 67 = .ok (.getfield 27, 3) := by decide +kernel
theorem dX3_seek_70 : decode cX3_seek 70 = .ok (.iload 4, 2) := by decide +kernel
theorem dX3_seek_72 : decode cX3_seek 72 = .ok (.bipush 16, 2) := by decide +kernel
theorem dX3_seek_74 : decode cX3_seek 74 = .ok (.imul, 1) := by decide +kernel
theorem dX3_seek_75 : decode cX3_seek 75 = .ok (.iload 5, 2) := by decide +kernel
theorem dX3_seek_77 : decode cX3_seek 77 = .ok (.iadd, 1) := by decide +kernel
theorem dX3_seek_78 : decode cX3_seek 78 = .ok (.iaload, 1) := by decide +kernel
theorem dX3_seek_79 : decode cX3_seek 79 = .ok (.isub, 1) := by decide +kernel
theorem dX3_seek_80 : decode cX3_seek 80 = .ok (.istore 7, 2) := by decide +kernel
theorem dX3_seek_82 : decode cX3_seek 82 = .ok (.aload_n 0, 1) := by decide +kernel
theorem dX3_seek_83 : decode cX3_seek 83 = .ok (.getfield 15, 3) := by decide +kernel
theorem dX3_seek_86 : decode cX3_seek 86 = .ok (.iload_n 1, 1) := by decide +kernel
theorem dX3_seek_87 : decode cX3_seek 87 = .ok (.iload 4, 2) := by decide +kernel
theorem dX3_seek_89 : decode cX3_seek 89 = .ok (.iastore, 1) := by decide +kernel
theorem dX3_seek_90 : decode cX3_seek 90 = .ok (.aload_n 0, 1) := by decide +kernel
theorem dX3_seek_91 : decode cX3_seek 91 = .ok (.getfield 21, 3) := by decide +kernel
theorem dX3_seek_94 : decode cX3_seek 94 = .ok (.iload 4, 2) := by decide +kernel
theorem dX3_seek_96 : decode cX3_seek 96 = .ok (.iload 6, 2) := by decide +kernel
theorem dX3_seek_98 : decode cX3_seek 98 = .ok (.iastore, 1) := by decide +kernel
theorem dX3_seek_99 : decode cX3_seek 99 = .ok (.aload_n 0, 1) := by decide +kernel
theorem dX3_seek_100 : decode cX3_seek 100 = .ok (.iload_n 1, 1) := by decide +kernel
theorem dX3_seek_101 : decode cX3_seek 101 = .ok (.iconst 1, 1) := by decide +kernel
theorem dX3_seek_102 : decode cX3_seek 102 = .ok (.iadd, 1) := by decide +kernel
theorem dX3_seek_103 : decode cX3_seek 103 = .ok (.iload_n 2, 1) := by decide +kernel
theorem dX3_seek_104 : decode cX3_seek 104 = .ok (.iload_n 3, 1) := by decide +kernel
theorem dX3_seek_105 : decode cX3_seek 105 = .ok (.iload 7, 2) := by decide +kernel
theorem dX3_seek_107 : decode cX3_seek 107 = .ok (.iadd, 1) := by decide +kernel
theorem dX3_seek_108 : decode cX3_seek 108 = .ok (.invokevirtual 69, 3) := by decide +kernel
theorem dX3_seek_111 : decode cX3_seek 111 = .ok (.aload_n 0, 1) := by decide +kernel
theorem dX3_seek_112 : decode cX3_seek 112 = .ok (.getfield 21, 3) := by decide +kernel
theorem dX3_seek_115 : decode cX3_seek 115 = .ok (.iload 4, 2) := by decide +kernel
theorem dX3_seek_117 : decode cX3_seek 117 = .ok (.iload 5, 2) := by decide +kernel
theorem dX3_seek_119 : decode cX3_seek 119 = .ok (.iastore, 1) := by decide +kernel
theorem dX3_seek_120 : decode cX3_seek 120 = .ok (.iinc 4 1, 3) := by decide +kernel
theorem dX3_seek_123 : decode cX3_seek 123 = .ok (.goto (-104), 3) := by decide +kernel
theorem dX3_seek_126 : decode cX3_seek 126 = .ok (.aload_n 0, 1) := by decide +kernel
theorem dX3_seek_127 : decode cX3_seek 127 = .ok (.getfield 15, 3) := by decide +kernel
theorem dX3_seek_130 : decode cX3_seek 130 = .ok (.iload_n 1, 1) := by decide +kernel
theorem dX3_seek_131 : decode cX3_seek 131 = .ok (.bipush 8, 2) := by decide +kernel
theorem dX3_seek_133 : decode cX3_seek 133 = .ok (.iastore, 1) := by decide +kernel
theorem dX3_seek_134 : decode cX3_seek 134 = .ok (.aload_n 0, 1) := by decide +kernel
theorem dX3_seek_135 : decode cX3_seek 135 = .ok (.iload_n 1, 1) := by decide +kernel
theorem dX3_seek_136 : decode cX3_seek 136 = .ok (.iconst 1, 1) := by decide +kernel
theorem dX3_seek_137 : decode cX3_seek 137 = .ok (.iadd, 1) := by decide +kernel
theorem dX3_seek_138 : decode cX3_seek 138 = .ok (.iload_n 2, 1) := by decide +kernel
theorem dX3_seek_139 : decode cX3_seek 139 = .ok (.iload_n 3, 1) := by decide +kernel
theorem dX3_seek_140 : decode cX3_seek 140 = .ok (.invokevirtual 69, 3) := by decide +kernel
theorem dX3_seek_143 : decode cX3_seek 143 = .ok (.return_, 1) := by decide +kernel
theorem dX3_keepIfStronger_0 : decode cX3_keepIfStronger 0 = .ok (.iload_n 1, 1) := by decide +kernel
theorem dX3_keepIfStronger_1 : decode cX3_keepIfStronger 1 = .ok (.aload_n 0, 1) := by decide +kernel
theorem dX3_keepIfStronger_2 : decode cX3_keepIfStronger 2 = .ok (.getfield 65, 3) := by decide +kernel
theorem dX3_keepIfStronger_5 : decode cX3_keepIfStronger 5 = .ok (.if_icmp .le 22, 3) := by decide +kernel
theorem dX3_keepIfStronger_8 : decode cX3_keepIfStronger 8 = .ok (.aload_n 0, 1) := by decide +kernel
theorem dX3_keepIfStronger_9 : decode cX3_keepIfStronger 9 = .ok (.iload_n 1, 1) := by decide +kernel
theorem dX3_keepIfStronger_10 : decode cX3_keepIfStronger 10 = .ok (.putfield 65, 3) := by decide +kernel
theorem dX3_keepIfStronger_13 : decode cX3_keepIfStronger 13 = .ok (.aload_n 0, 1) := by decide +kernel
theorem dX3_keepIfStronger_14 : decode cX3_keepIfStronger 14 = .ok (.getfield 15, 3) := by decide +kernel
theorem dX3_keepIfStronger_17 : decode cX3_keepIfStronger 17 = .ok (.iconst 0, 1) := by decide +kernel
theorem dX3_keepIfStronger_18 : decode cX3_keepIfStronger 18 = .ok (.aload_n 0, 1) := by decide +kernel
theorem dX3_keepIfStronger_19 : decode cX3_keepIfStronger 19 = .ok (.getfield 18, 3) := by decide +kernel
theorem dX3_keepIfStronger_22 : decode cX3_keepIfStronger 22 = .ok (.iconst 0, 1) := by decide +kernel
theorem dX3_keepIfStronger_23 : decode cX3_keepIfStronger 23 = .ok (.iconst 4, 1) := by decide +kernel
theorem dX3_keepIfStronger_24 : decode cX3_keepIfStronger 24 = .ok (.invokestatic 89, 3) := by decide +kernel
theorem dX3_keepIfStronger_27 : decode cX3_keepIfStronger 27 = .ok (.return_, 1) := by decide +kernel
set_option maxHeartbeats 4000000 in
set_option maxRecDepth 100000 in
theorem k_X3_costOf (l : Launch) (dC : Nat → ClassId) (dI : Nat → Nat → Nat) (cI cZ cQ : ClassId) (a : Nat → Nat) (min : Nat → Int32) (tri : Nat → Int32) (bes : Nat → Int32) (wkd : Nat → Int32) (cos : Nat → Int32) (rst : Nat → Int32) (bst : Int32) (top : Nat → Int32) (str : Nat → Int32) (gho : Nat → Int32) (ghs : Nat → Int32) (pto : Nat → Int32) (cro : Nat → Int32) (pla : Nat → Int32) (wal : Nat → Int32) (fal : Nat → Int32) (tel : Int32) (gai : Int32) (day : Int32) (mar : Nat → Int32) (few : Nat → Int32) (doo : Int32) (ro : Int32) (r_wkd : rg 8 (0) (15) wkd) (r_top : rg 48 (-1) (23) top) (r_str : rg 48 (0) (100) str) (r_gho : rg 48 (-1) (23) gho) (r_ghs : rg 48 (0) (100) ghs) (r_cro : rg 48 (0) (6) cro) (r_pla : rg 24 (-1) (47) pla) (r_fal : rg 11 (0) (30) fal) (r_gai : 0 ≤ gai.toInt ∧ gai.toInt ≤ 100) (r_day : 0 ≤ day.toInt ∧ day.toInt ≤ 400) (r_mar : rg 24 (0) (255) mar) (q0 : 0 ≤ ro.toInt) (q1 : ro.toInt ≤ 7) : KR l yX3_costOf wsX3_costOf { frames := 1, cells := 0, slots := 0, locals := 24 } (dC, dI) (TY cI cZ cQ) (wPln cI cZ cQ a min tri bes wkd cos rst bst top str gho ghs pto cro pla wal fal tel gai day mar few doo) [.ref (a 16), .int ro] (fun r : Int32 => True) := by
  refine Met.ofW (cc := cX3_costOf) (maxL := 3) (ret := (some .int)) (by decide) rfl ?_
  intro p e s m args below meth c s₁ B hml hv
  obtain ⟨rfl, hP, hK, hN⟩ := hv
  have hx := B.exec
  have hb := B.bytes
  have hr := B.returns
  have hts := atoms_spec (ws := wsX3_costOf) B.pre
  have hown : s.vm.findClass RX3 = some m.cls := findClass_of_methodNamed B.named
  have hlocks := B.notSynchronized
  have lf34 := hts (.fieldLink RX3 34 "PalaceOfRooms$Planner" "ways" "LPalaceOfRooms$Ways;") (by decide +kernel)
  have inX3 : ∀ w ∈ wsX30, w ∈ wsX3_costOf := by decide +kernel
  have lf30 := hts (.fieldLink RX3 30 "PalaceOfRooms$Planner" "corners" "LPalaceOfRooms$Corners;") (by decide +kernel)
  have hl := lv_entry ([.ref (a 16), .int ro]) (n := 3) (Nat.le_of_ble_eq_true rfl)
  rw [lg_entry_eq]
  generalize (lg_sl ([.ref (a 16), .int ro]) ++ List.replicate (3 - (lg_sl ([.ref (a 16), .int ro])).length) Slot.unset).toArray = ls at hl ⊢
  have hl : lv_has ls 3 [(0, .ref (a 16)), (1, .int ro)] := hl
  refine lv_aload_n hx hb dX3_costOf_0 rfl (lv_at hl 0 rfl) ?_
  refine va_get (D := (dC, dI)) (ci := 3) (v := .ref (a 0)) (C := RX3) (T := TX3) (N := 9) hx hb hts inX3 hown hK hP 0 rfl rfl 1 (by decide) lf34 (fun _ h9 => h9) rfl dX3_costOf_1 ?_
  refine lv_iconst (v := 0) hx hb dX3_costOf_4 (by decide) ?_
  refine lv_iload_n hx hb dX3_costOf_5 rfl (lv_at hl 1 rfl) ?_
  have kc0 : (0 : Int32).toInt = 0 := rfl
  refine rdV (As := [.int 0, .int ro]) (rest := []) ⟨hx, hb, hml, hown, hts⟩ (k_X8_between l dC dI cI cZ cQ a few doo (0 : Int32) ro (by omega) (by omega) (by omega) (by omega)) (cwV 2 hts gX3_costOf_X8_between rfl rfl rfl (by decide +kernel) ⟨Nat.le_of_ble_eq_true rfl, Nat.le_of_ble_eq_true rfl⟩) hP hK hN [19, 20] rfl 19 8 rfl rfl rfl hl.1 rfl (Nat.le_of_ble_eq_true rfl) dX3_costOf_6 ⟨Nat.le_of_ble_eq_true rfl, Nat.le_of_ble_eq_true rfl⟩ (fun r1 h2 => ?_)
  have h2 : True := h2
  refine lv_istore_n (lv' := [(2, .int r1), (0, .ref (a 16)), (1, .int ro)]) hx hb dX3_costOf_9 rfl hl (by decide) rfl (fun ls hl => ?_)
  refine lv_iload_n hx hb dX3_costOf_10 rfl (lv_at hl 0 rfl) ?_
  refine lv_iconst (v := (-1)) hx hb dX3_costOf_11 (by decide) ?_
  refine lv_icmp_ne (tgt := 19) hx hb dX3_costOf_12 (by decide) (fun c3 => ?_) (fun c3 => ?_)
  · have dc3 : r1.toInt ≠ (-1) := neC rfl (show ((-1) : Int32).toInt = (-1) from rfl) c3
    refine lv_iconst (v := 2) hx hb dX3_costOf_19 (by decide) ?_
    refine lv_iload_n hx hb dX3_costOf_20 rfl (lv_at hl 0 rfl) ?_
    refine lv_imul hx hb dX3_costOf_21 ?_
    refine lv_aload_n hx hb dX3_costOf_22 rfl (lv_at hl 1 rfl) ?_
    refine va_get (D := (dC, dI)) (ci := 3) (v := .ref (a 4)) (C := RX3) (T := TX3) (N := 9) hx hb hts inX3 hown hK hP 0 rfl rfl 0 (by decide) lf30 (fun _ h9 => h9) rfl dX3_costOf_23 ?_
    refine lv_iload_n hx hb dX3_costOf_26 rfl (lv_at hl 2 rfl) ?_
    refine rdV (As := [.int ro]) (rest := [.int (2 * r1)]) ⟨hx, hb, hml, hown, hts⟩ (k_X1_standingIn l dC dI cI cZ cQ a top str gho ghs pto cro pla wal fal tel gai day mar ro r_top r_str r_gho r_ghs r_cro r_pla r_fal r_gai r_day r_mar (by omega) (by omega)) (cwV 1 hts gX3_costOf_X1_standingIn rfl rfl rfl (by decide +kernel) ⟨Nat.le_of_ble_eq_true rfl, Nat.le_of_ble_eq_true rfl⟩) hP hK hN [7, 8, 9, 10, 11, 12, 13, 14, 15, 16, 17, 18] rfl 7 1 rfl rfl rfl hl.1 rfl (Nat.le_of_ble_eq_true rfl) dX3_costOf_27 ⟨Nat.le_of_ble_eq_true rfl, Nat.le_of_ble_eq_true rfl⟩ (fun r4 h5 => ?_)
    have h5 : True := h5
    refine lv_iadd hx hb dX3_costOf_30 ?_
    exact W.iret (v := (2 * r1) + r4) hx hb hr (fun t ht hW => ⟨(2 * r1) + r4, rfl, trivial, ht⟩) (fun q h => by cases h) dX3_costOf_31
  · have dc3 : r1.toInt = (-1) := eqC rfl (show ((-1) : Int32).toInt = (-1) from rfl) c3
    refine lv_iconst (v := (-1)) hx hb dX3_costOf_15 (by decide) ?_
    refine lv_goto (tgt := 31) hx hb dX3_costOf_16 (by decide) ?_
    exact W.iret (v := (-1)) hx hb hr (fun t ht hW => ⟨(-1), rfl, trivial, ht⟩) (fun q h => by cases h) dX3_costOf_31
set_option maxHeartbeats 4000000 in
set_option maxRecDepth 100000 in
theorem k_X3_takeMinutes (l : Launch) (dC : Nat → ClassId) (dI : Nat → Nat → Nat) (cI cZ cQ : ClassId) (a : Nat → Nat) (min : Nat → Int32) (tri : Nat → Int32) (bes : Nat → Int32) (wkd : Nat → Int32) (cos : Nat → Int32) (rst : Nat → Int32) (bst : Int32) (top : Nat → Int32) (str : Nat → Int32) (gho : Nat → Int32) (ghs : Nat → Int32) (pto : Nat → Int32) (cro : Nat → Int32) (pla : Nat → Int32) (wal : Nat → Int32) (fal : Nat → Int32) (tel : Int32) (gai : Int32) (day : Int32) (mar : Nat → Int32) (few : Nat → Int32) (doo : Int32) (sz : Nat) (mi : Int32) (n : Int32) (r_wkd : rg 8 (0) (15) wkd) (r_top : rg 48 (-1) (23) top) (r_str : rg 48 (0) (100) str) (r_gho : rg 48 (-1) (23) gho) (r_ghs : rg 48 (0) (100) ghs) (r_cro : rg 48 (0) (6) cro) (r_pla : rg 24 (-1) (47) pla) (r_fal : rg 11 (0) (30) fal) (r_gai : 0 ≤ gai.toInt ∧ gai.toInt ≤ 100) (r_day : 0 ≤ day.toInt ∧ day.toInt ≤ 400) (r_mar : rg 24 (0) (255) mar) (q0 : 1 ≤ n.toInt) (q1 : n.toInt ≤ 4) : KW l yX3_takeMinutes wsX3_takeMinutes { frames := 0, cells := 0, slots := 0, locals := 0 } (dC, dI) (TY cI cZ cQ) (wPln cI cZ cQ a min tri bes wkd cos rst bst top str gho ghs pto cro pla wal fal tel gai day mar few doo) [.ref (a 16), .int mi, .int n] sz 0 0 (fun (r : Int32) (u : US) => ((((r = 1)) ∨ ((r = 0))))) (fun u : US => (wPln cI cZ cQ a (u.1 0) tri bes wkd cos rst bst top str gho ghs pto cro pla wal fal tel gai day mar few doo)) := by
  refine Met.ofW (cc := cX3_takeMinutes) (maxL := 4) (ret := (some .boolean)) (by decide) rfl ?_
  intro p e s m args below meth c s₁ B hml hv
  obtain ⟨rfl, hsz, hP, hK, hD0, hN⟩ := hv
  have hx := B.exec
  have hb := B.bytes
  have hr := B.returns
  have hts := atoms_spec (ws := wsX3_takeMinutes) B.pre
  have hown : s.vm.findClass RX3 = some m.cls := findClass_of_methodNamed B.named
  have hlocks := B.notSynchronized
  have lf9 := hts (.fieldLink RX3 9 "PalaceOfRooms$Planner" "minutesOf" "[I") (by decide +kernel)
  have inX3 : ∀ w ∈ wsX30, w ∈ wsX3_takeMinutes := by decide +kernel
  subst hsz
  have hD := hD0.self (sz := s.heap.size)
  generalize hAe : va_A (wPln cI cZ cQ a min tri bes wkd cos rst bst top str gho ghs pto cro pla wal fal tel gai day mar few doo) s.heap.size = A at hD ⊢
  have hA : ∀ q : Nat, s.heap.size ≤ q → A q := fun q h => by rw [← hAe]; exact Or.inr h
  have hS : va_S A s.heap s.heap [] := va_S.rf
  have hl := lv_entry ([.ref (a 16), .int mi, .int n]) (n := 4) (Nat.le_of_ble_eq_true rfl)
  rw [lg_entry_eq]
  generalize (lg_sl ([.ref (a 16), .int mi, .int n]) ++ List.replicate (4 - (lg_sl ([.ref (a 16), .int mi, .int n])).length) Slot.unset).toArray = ls at hl ⊢
  have hl : lv_has ls 4 [(0, .ref (a 16)), (1, .int mi), (2, .int n)] := hl
  refine lv_iconst (v := 0) hx hb dX3_takeMinutes_0 (by decide) ?_
  refine lv_istore_n (lv' := [(3, .int 0), (0, .ref (a 16)), (1, .int mi), (2, .int n)]) hx hb dX3_takeMinutes_1 rfl hl (by decide) rfl (fun ls hl => ?_)
  have L2 : ∀ (nn : Nat) (y2_3 : Int32) (min_2 : Nat → Int32) (H : Heap) (locs : List Loc) (ls : Array Slot), (0 ≤ (y2_3.toInt)) → ((y2_3.toInt) ≤ 4) → (4 - (y2_3.toInt)).toNat < nn → va_P (dC, dI) vwCl (wPln cI cZ cQ a min_2 tri bes wkd cos rst bst top str gho ghs pto cro pla wal fal tel gai day mar few doo) H → va_D A (wPln cI cZ cQ a min_2 tri bes wkd cos rst bst top str gho ghs pto cro pla wal fal tel gai day mar few doo) → va_S A s.heap H locs → lv_has ls 4 [(0, .ref (a 16)), (1, .int mi), (2, .int n), (3, .int y2_3)] → W p l e (headSpec wsX3_takeMinutes { frames := 0, cells := 0, slots := 0, locals := 0 }).room s m ([.ref (a 16), .int mi, .int n] : List Value).toArray below meth c H locs 0 0 (MQ below (va_Qi (fun (r : Int32) (u : US) => ((((r = 1)) ∨ ((r = 0))))) (Bw (dC, dI) A (fun u : US => (wPln cI cZ cQ a (u.1 0) tri bes wkd cos rst bst top str gho ghs pto cro pla wal fal tel gai day mar few doo))) A) ([.ref (a 16), .int mi, .int n] : List Value).toArray s 0 0 A) (F0 m 2 ls []) := by
    intro nn
    induction nn with
    | zero =>
      intro y2_3 min_2 H locs ls i2_0 i2_1 hm
      exact absurd hm (Nat.not_lt_zero _)
    | succ nn ih2 =>
      intro y2_3 min_2 H locs ls i2_0 i2_1 hm hP hD hS hl
      refine lv_iload_n hx hb dX3_takeMinutes_2 rfl (lv_at hl 3 rfl) ?_
      refine lv_iload_n hx hb dX3_takeMinutes_3 rfl (lv_at hl 2 rfl) ?_
      refine lv_icmp_ge (tgt := 41) hx hb dX3_takeMinutes_4 (by decide) (fun c1 => ?_) (fun c1 => ?_)
      · have dc1 : n.toInt ≤ y2_3.toInt := leC rfl rfl c1
        refine lv_iconst (v := 1) hx hb dX3_takeMinutes_41 (by decide) ?_
        exact W.zret (v := 1) hx hb hr (by decide) (fun t ht hW => ⟨⟨1, (uS [min_2] 0 (fun _ => 0)), rfl, (Or.inl rfl), by rw [ht]; exact hP, hD⟩, hS.F ht⟩) hS.2.2 dX3_takeMinutes_42
      · have dc1 : y2_3.toInt < n.toInt := nleC rfl rfl c1
        refine lv_aload_n hx hb dX3_takeMinutes_7 rfl (lv_at hl 0 rfl) ?_
        refine va_get (D := (dC, dI)) (ci := 3) (v := .ref (a 17)) (C := RX3) (T := TX3) (N := 9) hx hb hts inX3 hown hK hP 0 rfl rfl 2 (by decide) lf9 (fun _ h9 => h9) rfl dX3_takeMinutes_8 ?_
        refine lv_iload_n hx hb dX3_takeMinutes_11 rfl (lv_at hl 3 rfl) ?_
        refine lv_iload_n hx hb dX3_takeMinutes_12 rfl (lv_at hl 1 rfl) ?_
        refine lv_bipush (v := 7) hx hb dX3_takeMinutes_13 (by decide) ?_
        refine lv_iload_n hx hb dX3_takeMinutes_15 rfl (lv_at hl 3 rfl) ?_
        refine lv_imul hx hb dX3_takeMinutes_16 ?_
        have f2 : (7 * y2_3).toInt = (7) * (y2_3.toInt) := mulC (show (7 : Int32).toInt = 7 from rfl) rfl (by omega) (by omega)
        refine lv_ishr hx hb dX3_takeMinutes_17 ?_
        refine lv_bipush (v := 127) hx hb dX3_takeMinutes_18 (by decide) ?_
        refine lv_iand hx hb dX3_takeMinutes_20 ?_
        have f3 := andR (a := (mi >>> ((7 * y2_3) &&& 31))) (m := 127) (M := 127) rfl (by decide)
        refine lv_topi (fun x4 ex4 => ?_)
        have ix4 : x4.toInt = ((mi >>> ((7 * y2_3) &&& 31)) &&& 127).toInt := by rw [ex4]
        have b5 : vp_in y2_3 4 := inC rfl (by omega) (by omega)
        refine va_iast hx hb hK hP hD hS 1 0 rfl rfl b5 dX3_takeMinutes_21 (fun H locs hP hD hS => ?_)
        obtain ⟨min_u6, emin_u6⟩ : ∃ f : Nat → Int32, f = upd min_2 y2_3.toNatClampNeg x4 := ⟨_, rfl⟩
        have hP : va_P (dC, dI) vwCl (wPln cI cZ cQ a min_u6 tri bes wkd cos rst bst top str gho ghs pto cro pla wal fal tel gai day mar few doo) H := by rw [emin_u6]; exact hP
        have hD : va_D A (wPln cI cZ cQ a min_u6 tri bes wkd cos rst bst top str gho ghs pto cro pla wal fal tel gai day mar few doo) := by rw [emin_u6]; exact hD
        refine lv_aload_n hx hb dX3_takeMinutes_22 rfl (lv_at hl 0 rfl) ?_
        refine va_get (D := (dC, dI)) (ci := 3) (v := .ref (a 17)) (C := RX3) (T := TX3) (N := 9) hx hb hts inX3 hown hK hP 0 rfl rfl 2 (by decide) lf9 (fun _ h9 => h9) rfl dX3_takeMinutes_23 ?_
        refine lv_iload_n hx hb dX3_takeMinutes_26 rfl (lv_at hl 3 rfl) ?_
        have b7 : vp_in y2_3 4 := inC rfl (by omega) (by omega)
        refine va_iald hx hb hK hP 1 0 rfl rfl b7 dX3_takeMinutes_27 ?_
        refine lv_bipush (v := 99) hx hb dX3_takeMinutes_28 (by decide) ?_
        refine lv_icmp_le (tgt := 35) hx hb dX3_takeMinutes_30 (by decide) (fun c8 => ?_) (fun c8 => ?_)
        · have dc8 : (min_u6 y2_3.toNatClampNeg).toInt ≤ 99 := leC rfl (show (99 : Int32).toInt = 99 from rfl) c8
          obtain ⟨z9, ez9⟩ : ∃ y : Int32, y = y2_3 + 1 := ⟨_, rfl⟩
          have iz9 : z9.toInt = y2_3.toInt + 1 := by rw [ez9]; exact addC rfl rfl (by omega) (by omega)
          refine lv_iinc (v := z9) (lv' := [(3, .int z9), (0, .ref (a 16)), (1, .int mi), (2, .int n)]) hx hb dX3_takeMinutes_35 hl (k := 3) rfl (by rw [ez9]; rfl) (by decide) rfl (fun ls hl => ?_)
          refine lv_goto (tgt := 2) hx hb dX3_takeMinutes_38 (by decide) ?_
          exact ih2 z9 min_u6 _ _ _ (by omega) (by omega) (by omega) hP hD hS (lv_sub hl [1, 2, 3, 0] rfl)
        · have dc8 : 99 < (min_u6 y2_3.toNatClampNeg).toInt := nleC rfl (show (99 : Int32).toInt = 99 from rfl) c8
          refine lv_iconst (v := 0) hx hb dX3_takeMinutes_33 (by decide) ?_
          exact W.zret (v := 0) hx hb hr (by decide) (fun t ht hW => ⟨⟨0, (uS [min_u6] 0 (fun _ => 0)), rfl, (Or.inr rfl), by rw [ht]; exact hP, hD⟩, hS.F ht⟩) hS.2.2 dX3_takeMinutes_34
  have kc10 : (0 : Int32).toInt = 0 := rfl
  exact L2 _ 0 min _ _ _ (by omega) (by omega) (Nat.lt_succ_self _) hP hD hS (lv_sub hl [1, 2, 3, 0] rfl)
set_option maxHeartbeats 4000000 in
set_option maxRecDepth 100000 in
theorem k_X3_takeRooms (l : Launch) (dC : Nat → ClassId) (dI : Nat → Nat → Nat) (cI cZ cQ : ClassId) (a : Nat → Nat) (min : Nat → Int32) (tri : Nat → Int32) (bes : Nat → Int32) (wkd : Nat → Int32) (cos : Nat → Int32) (rst : Nat → Int32) (bst : Int32) (top : Nat → Int32) (str : Nat → Int32) (gho : Nat → Int32) (ghs : Nat → Int32) (pto : Nat → Int32) (cro : Nat → Int32) (pla : Nat → Int32) (wal : Nat → Int32) (fal : Nat → Int32) (tel : Int32) (gai : Int32) (day : Int32) (mar : Nat → Int32) (few : Nat → Int32) (doo : Int32) (sz : Nat) (rw : Int32) (n : Int32) (r_wkd : rg 8 (0) (15) wkd) (r_top : rg 48 (-1) (23) top) (r_str : rg 48 (0) (100) str) (r_gho : rg 48 (-1) (23) gho) (r_ghs : rg 48 (0) (100) ghs) (r_cro : rg 48 (0) (6) cro) (r_pla : rg 24 (-1) (47) pla) (r_fal : rg 11 (0) (30) fal) (r_gai : 0 ≤ gai.toInt ∧ gai.toInt ≤ 100) (r_day : 0 ≤ day.toInt ∧ day.toInt ≤ 400) (r_mar : rg 24 (0) (255) mar) (q0 : 1 ≤ n.toInt) (q1 : n.toInt ≤ 4) : KW l yX3_takeRooms wsX3_takeRooms { frames := 0, cells := 0, slots := 0, locals := 0 } (dC, dI) (TY cI cZ cQ) (wPln cI cZ cQ a min tri bes wkd cos rst bst top str gho ghs pto cro pla wal fal tel gai day mar few doo) [.ref (a 16), .int rw, .int n] sz 0 0 (fun (r : Int32) (u : US) => ((((r = 1)) ∨ ((r = 0))))) (fun u : US => (wPln cI cZ cQ a min (u.1 0) bes wkd cos rst bst top str gho ghs pto cro pla wal fal tel gai day mar few doo)) := by
  refine Met.ofW (cc := cX3_takeRooms) (maxL := 4) (ret := (some .boolean)) (by decide) rfl ?_
  intro p e s m args below meth c s₁ B hml hv
  obtain ⟨rfl, hsz, hP, hK, hD0, hN⟩ := hv
  have hx := B.exec
  have hb := B.bytes
  have hr := B.returns
  have hts := atoms_spec (ws := wsX3_takeRooms) B.pre
  have hown : s.vm.findClass RX3 = some m.cls := findClass_of_methodNamed B.named
  have hlocks := B.notSynchronized
  have lf15 := hts (.fieldLink RX3 15 "PalaceOfRooms$Planner" "trial" "[I") (by decide +kernel)
  have inX3 : ∀ w ∈ wsX30, w ∈ wsX3_takeRooms := by decide +kernel
  subst hsz
  have hD := hD0.self (sz := s.heap.size)
  generalize hAe : va_A (wPln cI cZ cQ a min tri bes wkd cos rst bst top str gho ghs pto cro pla wal fal tel gai day mar few doo) s.heap.size = A at hD ⊢
  have hA : ∀ q : Nat, s.heap.size ≤ q → A q := fun q h => by rw [← hAe]; exact Or.inr h
  have hS : va_S A s.heap s.heap [] := va_S.rf
  have hl := lv_entry ([.ref (a 16), .int rw, .int n]) (n := 4) (Nat.le_of_ble_eq_true rfl)
  rw [lg_entry_eq]
  generalize (lg_sl ([.ref (a 16), .int rw, .int n]) ++ List.replicate (4 - (lg_sl ([.ref (a 16), .int rw, .int n])).length) Slot.unset).toArray = ls at hl ⊢
  have hl : lv_has ls 4 [(0, .ref (a 16)), (1, .int rw), (2, .int n)] := hl
  refine lv_iconst (v := 0) hx hb dX3_takeRooms_0 (by decide) ?_
  refine lv_istore_n (lv' := [(3, .int 0), (0, .ref (a 16)), (1, .int rw), (2, .int n)]) hx hb dX3_takeRooms_1 rfl hl (by decide) rfl (fun ls hl => ?_)
  have L2 : ∀ (nn : Nat) (y2_3 : Int32) (tri_2 : Nat → Int32) (H : Heap) (locs : List Loc) (ls : Array Slot), (0 ≤ (y2_3.toInt)) → ((y2_3.toInt) ≤ 4) → (4 - (y2_3.toInt)).toNat < nn → va_P (dC, dI) vwCl (wPln cI cZ cQ a min tri_2 bes wkd cos rst bst top str gho ghs pto cro pla wal fal tel gai day mar few doo) H → va_D A (wPln cI cZ cQ a min tri_2 bes wkd cos rst bst top str gho ghs pto cro pla wal fal tel gai day mar few doo) → va_S A s.heap H locs → lv_has ls 4 [(0, .ref (a 16)), (1, .int rw), (2, .int n), (3, .int y2_3)] → W p l e (headSpec wsX3_takeRooms { frames := 0, cells := 0, slots := 0, locals := 0 }).room s m ([.ref (a 16), .int rw, .int n] : List Value).toArray below meth c H locs 0 0 (MQ below (va_Qi (fun (r : Int32) (u : US) => ((((r = 1)) ∨ ((r = 0))))) (Bw (dC, dI) A (fun u : US => (wPln cI cZ cQ a min (u.1 0) bes wkd cos rst bst top str gho ghs pto cro pla wal fal tel gai day mar few doo))) A) ([.ref (a 16), .int rw, .int n] : List Value).toArray s 0 0 A) (F0 m 2 ls []) := by
    intro nn
    induction nn with
    | zero =>
      intro y2_3 tri_2 H locs ls i2_0 i2_1 hm
      exact absurd hm (Nat.not_lt_zero _)
    | succ nn ih2 =>
      intro y2_3 tri_2 H locs ls i2_0 i2_1 hm hP hD hS hl
      refine lv_iload_n hx hb dX3_takeRooms_2 rfl (lv_at hl 3 rfl) ?_
      refine lv_iload_n hx hb dX3_takeRooms_3 rfl (lv_at hl 2 rfl) ?_
      refine lv_icmp_ge (tgt := 40) hx hb dX3_takeRooms_4 (by decide) (fun c1 => ?_) (fun c1 => ?_)
      · have dc1 : n.toInt ≤ y2_3.toInt := leC rfl rfl c1
        refine lv_iconst (v := 1) hx hb dX3_takeRooms_40 (by decide) ?_
        exact W.zret (v := 1) hx hb hr (by decide) (fun t ht hW => ⟨⟨1, (uS [tri_2] 0 (fun _ => 0)), rfl, (Or.inl rfl), by rw [ht]; exact hP, hD⟩, hS.F ht⟩) hS.2.2 dX3_takeRooms_41
      · have dc1 : y2_3.toInt < n.toInt := nleC rfl rfl c1
        refine lv_aload_n hx hb dX3_takeRooms_7 rfl (lv_at hl 0 rfl) ?_
        refine va_get (D := (dC, dI)) (ci := 3) (v := .ref (a 18)) (C := RX3) (T := TX3) (N := 9) hx hb hts inX3 hown hK hP 0 rfl rfl 3 (by decide) lf15 (fun _ h9 => h9) rfl dX3_takeRooms_8 ?_
        refine lv_iload_n hx hb dX3_takeRooms_11 rfl (lv_at hl 3 rfl) ?_
        refine lv_iload_n hx hb dX3_takeRooms_12 rfl (lv_at hl 1 rfl) ?_
        refine lv_iconst (v := 4) hx hb dX3_takeRooms_13 (by decide) ?_
        refine lv_iload_n hx hb dX3_takeRooms_14 rfl (lv_at hl 3 rfl) ?_
        refine lv_imul hx hb dX3_takeRooms_15 ?_
        have f2 : (4 * y2_3).toInt = (4) * (y2_3.toInt) := mulC (show (4 : Int32).toInt = 4 from rfl) rfl (by omega) (by omega)
        refine lv_ishr hx hb dX3_takeRooms_16 ?_
        refine lv_bipush (v := 15) hx hb dX3_takeRooms_17 (by decide) ?_
        refine lv_iand hx hb dX3_takeRooms_19 ?_
        have f3 := andR (a := (rw >>> ((4 * y2_3) &&& 31))) (m := 15) (M := 15) rfl (by decide)
        refine lv_topi (fun x4 ex4 => ?_)
        have ix4 : x4.toInt = ((rw >>> ((4 * y2_3) &&& 31)) &&& 15).toInt := by rw [ex4]
        have b5 : vp_in y2_3 4 := inC rfl (by omega) (by omega)
        refine va_iast hx hb hK hP hD hS 2 0 rfl rfl b5 dX3_takeRooms_20 (fun H locs hP hD hS => ?_)
        obtain ⟨tri_u6, etri_u6⟩ : ∃ f : Nat → Int32, f = upd tri_2 y2_3.toNatClampNeg x4 := ⟨_, rfl⟩
        have hP : va_P (dC, dI) vwCl (wPln cI cZ cQ a min tri_u6 bes wkd cos rst bst top str gho ghs pto cro pla wal fal tel gai day mar few doo) H := by rw [etri_u6]; exact hP
        have hD : va_D A (wPln cI cZ cQ a min tri_u6 bes wkd cos rst bst top str gho ghs pto cro pla wal fal tel gai day mar few doo) := by rw [etri_u6]; exact hD
        refine lv_aload_n hx hb dX3_takeRooms_21 rfl (lv_at hl 0 rfl) ?_
        refine va_get (D := (dC, dI)) (ci := 3) (v := .ref (a 18)) (C := RX3) (T := TX3) (N := 9) hx hb hts inX3 hown hK hP 0 rfl rfl 3 (by decide) lf15 (fun _ h9 => h9) rfl dX3_takeRooms_22 ?_
        refine lv_iload_n hx hb dX3_takeRooms_25 rfl (lv_at hl 3 rfl) ?_
        have b7 : vp_in y2_3 4 := inC rfl (by omega) (by omega)
        refine va_iald hx hb hK hP 2 0 rfl rfl b7 dX3_takeRooms_26 ?_
        refine lv_bipush (v := 8) hx hb dX3_takeRooms_27 (by decide) ?_
        refine lv_icmp_le (tgt := 34) hx hb dX3_takeRooms_29 (by decide) (fun c8 => ?_) (fun c8 => ?_)
        · have dc8 : (tri_u6 y2_3.toNatClampNeg).toInt ≤ 8 := leC rfl (show (8 : Int32).toInt = 8 from rfl) c8
          obtain ⟨z9, ez9⟩ : ∃ y : Int32, y = y2_3 + 1 := ⟨_, rfl⟩
          have iz9 : z9.toInt = y2_3.toInt + 1 := by rw [ez9]; exact addC rfl rfl (by omega) (by omega)
          refine lv_iinc (v := z9) (lv' := [(3, .int z9), (0, .ref (a 16)), (1, .int rw), (2, .int n)]) hx hb dX3_takeRooms_34 hl (k := 3) rfl (by rw [ez9]; rfl) (by decide) rfl (fun ls hl => ?_)
          refine lv_goto (tgt := 2) hx hb dX3_takeRooms_37 (by decide) ?_
          exact ih2 z9 tri_u6 _ _ _ (by omega) (by omega) (by omega) hP hD hS (lv_sub hl [1, 2, 3, 0] rfl)
        · have dc8 : 8 < (tri_u6 y2_3.toNatClampNeg).toInt := nleC rfl (show (8 : Int32).toInt = 8 from rfl) c8
          refine lv_iconst (v := 0) hx hb dX3_takeRooms_32 (by decide) ?_
          exact W.zret (v := 0) hx hb hr (by decide) (fun t ht hW => ⟨⟨0, (uS [tri_u6] 0 (fun _ => 0)), rfl, (Or.inr rfl), by rw [ht]; exact hP, hD⟩, hS.F ht⟩) hS.2.2 dX3_takeRooms_33
  have kc10 : (0 : Int32).toInt = 0 := rfl
  exact L2 _ 0 tri _ _ _ (by omega) (by omega) (Nat.lt_succ_self _) hP hD hS (lv_sub hl [1, 2, 3, 0] rfl)
set_option maxHeartbeats 4000000 in
set_option maxRecDepth 100000 in
theorem k_X3_walkable (l : Launch) (dC : Nat → ClassId) (dI : Nat → Nat → Nat) (cI cZ cQ : ClassId) (a : Nat → Nat) (min : Nat → Int32) (tri : Nat → Int32) (bes : Nat → Int32) (wkd : Nat → Int32) (cos : Nat → Int32) (rst : Nat → Int32) (bst : Int32) (top : Nat → Int32) (str : Nat → Int32) (gho : Nat → Int32) (ghs : Nat → Int32) (pto : Nat → Int32) (cro : Nat → Int32) (pla : Nat → Int32) (wal : Nat → Int32) (fal : Nat → Int32) (tel : Int32) (gai : Int32) (day : Int32) (mar : Nat → Int32) (few : Nat → Int32) (doo : Int32) (ro : Int32) (i : Int32) (r_wkd : rg 8 (0) (15) wkd) (r_top : rg 48 (-1) (23) top) (r_str : rg 48 (0) (100) str) (r_gho : rg 48 (-1) (23) gho) (r_ghs : rg 48 (0) (100) ghs) (r_cro : rg 48 (0) (6) cro) (r_pla : rg 24 (-1) (47) pla) (r_fal : rg 11 (0) (30) fal) (r_gai : 0 ≤ gai.toInt ∧ gai.toInt ≤ 100) (r_day : 0 ≤ day.toInt ∧ day.toInt ≤ 400) (r_mar : rg 24 (0) (255) mar) (q0 : 0 ≤ ro.toInt) (q1 : ro.toInt ≤ 7) (q2 : 0 ≤ i.toInt) (q3 : i.toInt ≤ 3) : KR l yX3_walkable wsX3_walkable { frames := 0, cells := 0, slots := 0, locals := 0 } (dC, dI) (TY cI cZ cQ) (wPln cI cZ cQ a min tri bes wkd cos rst bst top str gho ghs pto cro pla wal fal tel gai day mar few doo) [.ref (a 16), .int ro, .int i] (fun r : Int32 => ((((r = 1)) ∨ ((r = 0))))) := by
  refine Met.ofW (cc := cX3_walkable) (maxL := 3) (ret := (some .boolean)) (by decide) rfl ?_
  intro p e s m args below meth c s₁ B hml hv
  obtain ⟨rfl, hP, hK, hN⟩ := hv
  have hx := B.exec
  have hb := B.bytes
  have hr := B.returns
  have hts := atoms_spec (ws := wsX3_walkable) B.pre
  have hown : s.vm.findClass RX3 = some m.cls := findClass_of_methodNamed B.named
  have hlocks := B.notSynchronized
  have lf24 := hts (.fieldLink RX3 24 "PalaceOfRooms$Planner" "costs" "[I") (by decide +kernel)
  have inX3 : ∀ w ∈ wsX30, w ∈ wsX3_walkable := by decide +kernel
  have lf9 := hts (.fieldLink RX3 9 "PalaceOfRooms$Planner" "minutesOf" "[I") (by decide +kernel)
  have hl := lv_entry ([.ref (a 16), .int ro, .int i]) (n := 3) (Nat.le_of_ble_eq_true rfl)
  rw [lg_entry_eq]
  generalize (lg_sl ([.ref (a 16), .int ro, .int i]) ++ List.replicate (3 - (lg_sl ([.ref (a 16), .int ro, .int i])).length) Slot.unset).toArray = ls at hl ⊢
  have hl : lv_has ls 3 [(0, .ref (a 16)), (1, .int ro), (2, .int i)] := hl
  refine lv_aload_n hx hb dX3_walkable_0 rfl (lv_at hl 0 rfl) ?_
  refine va_get (D := (dC, dI)) (ci := 3) (v := .ref (a 21)) (C := RX3) (T := TX3) (N := 9) hx hb hts inX3 hown hK hP 0 rfl rfl 6 (by decide) lf24 (fun _ h9 => h9) rfl dX3_walkable_1 ?_
  refine lv_iload_n hx hb dX3_walkable_4 rfl (lv_at hl 1 rfl) ?_
  have b1 : vp_in ro 8 := inC rfl (by omega) (by omega)
  refine va_iald hx hb hK hP 5 0 rfl rfl b1 dX3_walkable_5 ?_
  refine lv_iconst (v := (-1)) hx hb dX3_walkable_6 (by decide) ?_
  refine lv_icmp_eq (tgt := 29) hx hb dX3_walkable_7 (by decide) (fun c2 => ?_) (fun c2 => ?_)
  · have dc2 : (cos ro.toNatClampNeg).toInt = (-1) := eqC rfl (show ((-1) : Int32).toInt = (-1) from rfl) c2
    refine lv_iconst (v := 0) hx hb dX3_walkable_29 (by decide) ?_
    exact W.zret (v := 0) hx hb hr (by decide) (fun t ht hW => ⟨0, rfl, (Or.inr rfl), ht⟩) (fun q h => by cases h) dX3_walkable_30
  · have dc2 : (cos ro.toNatClampNeg).toInt ≠ (-1) := neC rfl (show ((-1) : Int32).toInt = (-1) from rfl) c2
    refine lv_aload_n hx hb dX3_walkable_10 rfl (lv_at hl 0 rfl) ?_
    refine va_get (D := (dC, dI)) (ci := 3) (v := .ref (a 21)) (C := RX3) (T := TX3) (N := 9) hx hb hts inX3 hown hK hP 0 rfl rfl 6 (by decide) lf24 (fun _ h9 => h9) rfl dX3_walkable_11 ?_
    refine lv_iload_n hx hb dX3_walkable_14 rfl (lv_at hl 1 rfl) ?_
    have b3 : vp_in ro 8 := inC rfl (by omega) (by omega)
    refine va_iald hx hb hK hP 5 0 rfl rfl b3 dX3_walkable_15 ?_
    refine lv_aload_n hx hb dX3_walkable_16 rfl (lv_at hl 0 rfl) ?_
    refine va_get (D := (dC, dI)) (ci := 3) (v := .ref (a 17)) (C := RX3) (T := TX3) (N := 9) hx hb hts inX3 hown hK hP 0 rfl rfl 2 (by decide) lf9 (fun _ h9 => h9) rfl dX3_walkable_17 ?_
    refine lv_iload_n hx hb dX3_walkable_20 rfl (lv_at hl 2 rfl) ?_
    have b4 : vp_in i 4 := inC rfl (by omega) (by omega)
    refine va_iald hx hb hK hP 1 0 rfl rfl b4 dX3_walkable_21 ?_
    refine lv_icmp_gt (tgt := 29) hx hb dX3_walkable_22 (by decide) (fun c5 => ?_) (fun c5 => ?_)
    · have dc5 : (min i.toNatClampNeg).toInt < (cos ro.toNatClampNeg).toInt := ltC rfl rfl c5
      refine lv_iconst (v := 0) hx hb dX3_walkable_29 (by decide) ?_
      exact W.zret (v := 0) hx hb hr (by decide) (fun t ht hW => ⟨0, rfl, (Or.inr rfl), ht⟩) (fun q h => by cases h) dX3_walkable_30
    · have dc5 : (cos ro.toNatClampNeg).toInt ≤ (min i.toNatClampNeg).toInt := nltC rfl rfl c5
      refine lv_iconst (v := 1) hx hb dX3_walkable_25 (by decide) ?_
      refine lv_goto (tgt := 30) hx hb dX3_walkable_26 (by decide) ?_
      exact W.zret (v := 1) hx hb hr (by decide) (fun t ht hW => ⟨1, rfl, (Or.inl rfl), ht⟩) (fun q h => by cases h) dX3_walkable_30
set_option maxHeartbeats 4000000 in
set_option maxRecDepth 100000 in
theorem k_X3_strengthOfRoom (l : Launch) (dC : Nat → ClassId) (dI : Nat → Nat → Nat) (cI cZ cQ : ClassId) (a : Nat → Nat) (min : Nat → Int32) (tri : Nat → Int32) (bes : Nat → Int32) (wkd : Nat → Int32) (cos : Nat → Int32) (rst : Nat → Int32) (bst : Int32) (top : Nat → Int32) (str : Nat → Int32) (gho : Nat → Int32) (ghs : Nat → Int32) (pto : Nat → Int32) (cro : Nat → Int32) (pla : Nat → Int32) (wal : Nat → Int32) (fal : Nat → Int32) (tel : Int32) (gai : Int32) (day : Int32) (mar : Nat → Int32) (few : Nat → Int32) (doo : Int32) (ro : Int32) (n : Int32) (dy : Int32) (r_wkd : rg 8 (0) (15) wkd) (r_top : rg 48 (-1) (23) top) (r_str : rg 48 (0) (100) str) (r_gho : rg 48 (-1) (23) gho) (r_ghs : rg 48 (0) (100) ghs) (r_cro : rg 48 (0) (6) cro) (r_pla : rg 24 (-1) (47) pla) (r_fal : rg 11 (0) (30) fal) (r_gai : 0 ≤ gai.toInt ∧ gai.toInt ≤ 100) (r_day : 0 ≤ day.toInt ∧ day.toInt ≤ 400) (r_mar : rg 24 (0) (255) mar) (q0 : 0 ≤ ro.toInt) (q1 : ro.toInt ≤ 7) (q2 : n.toInt ≤ 60) : KR l yX3_strengthOfRoom wsX3_strengthOfRoom { frames := 3, cells := 0, slots := 0, locals := 71 } (dC, dI) (TY cI cZ cQ) (wPln cI cZ cQ a min tri bes wkd cos rst bst top str gho ghs pto cro pla wal fal tel gai day mar few doo) [.ref (a 16), .int ro, .int n, .int dy] (fun r : Int32 => True) := by
  refine Met.ofW (cc := cX3_strengthOfRoom) (maxL := 7) (ret := (some .int)) (by decide) rfl ?_
  intro p e s m args below meth c s₁ B hml hv
  obtain ⟨rfl, hP, hK, hN⟩ := hv
  have hx := B.exec
  have hb := B.bytes
  have hr := B.returns
  have hts := atoms_spec (ws := wsX3_strengthOfRoom) B.pre
  have hown : s.vm.findClass RX3 = some m.cls := findClass_of_methodNamed B.named
  have hlocks := B.notSynchronized
  have lf30 := hts (.fieldLink RX3 30 "PalaceOfRooms$Planner" "corners" "LPalaceOfRooms$Corners;") (by decide +kernel)
  have inX3 : ∀ w ∈ wsX30, w ∈ wsX3_strengthOfRoom := by decide +kernel
  have lf79 := hN.use (w := .fieldLinkNest "PalaceOfRooms$Planner" 79 "PalaceOfRooms$Corners" "top" "[I" "PalaceOfRooms") (by decide +kernel) ([.ref (a 16), .int ro, .int n, .int dy] : List Value).toArray
  have inX1 : ∀ w ∈ wsX10, w ∈ wsX3_strengthOfRoom := by decide +kernel
  have hl := lv_entry ([.ref (a 16), .int ro, .int n, .int dy]) (n := 7) (Nat.le_of_ble_eq_true rfl)
  rw [lg_entry_eq]
  generalize (lg_sl ([.ref (a 16), .int ro, .int n, .int dy]) ++ List.replicate (7 - (lg_sl ([.ref (a 16), .int ro, .int n, .int dy])).length) Slot.unset).toArray = ls at hl ⊢
  have hl : lv_has ls 7 [(0, .ref (a 16)), (1, .int ro), (2, .int n), (3, .int dy)] := hl
  refine lv_iconst (v := 0) hx hb dX3_strengthOfRoom_0 (by decide) ?_
  refine lv_istore (lv' := [(4, .int 0), (0, .ref (a 16)), (1, .int ro), (2, .int n), (3, .int dy)]) hx hb dX3_strengthOfRoom_1 hl (by decide) rfl (fun ls hl => ?_)
  refine lv_iload_n hx hb dX3_strengthOfRoom_3 rfl (lv_at hl 2 rfl) ?_
  refine lv_bipush (v := 6) hx hb dX3_strengthOfRoom_4 (by decide) ?_
  refine lv_imul hx hb dX3_strengthOfRoom_6 ?_
  have f1 : (ro * 6).toInt = (ro.toInt) * (6) := mulC rfl (show (6 : Int32).toInt = 6 from rfl) (by omega) (by omega)
  refine lv_topi (fun x2 ex2 => ?_)
  have ix2 : x2.toInt = (ro.toInt) * (6) := by rw [ex2]; exact f1
  refine lv_istore (lv' := [(5, .int x2), (4, .int 0), (0, .ref (a 16)), (1, .int ro), (2, .int n), (3, .int dy)]) hx hb dX3_strengthOfRoom_7 hl (by decide) rfl (fun ls hl => ?_)
  refine lv_iload hx hb dX3_strengthOfRoom_9 (lv_at hl 0 rfl) ?_
  refine lv_istore (lv' := [(6, .int x2), (5, .int x2), (4, .int 0), (0, .ref (a 16)), (1, .int ro), (2, .int n), (3, .int dy)]) hx hb dX3_strengthOfRoom_11 hl (by decide) rfl (fun ls hl => ?_)
  have L13 : ∀ (nn : Nat) (y13_4 : Int32) (y13_6 : Int32) (ls : Array Slot), (0 ≤ (y13_6.toInt)) → ((y13_6.toInt) ≤ 48) → (48 - (y13_6.toInt)).toNat < nn → lv_has ls 7 [(0, .ref (a 16)), (2, .int n), (3, .int dy), (4, .int y13_4), (5, .int x2), (6, .int y13_6)] → W p l e (headSpec wsX3_strengthOfRoom { frames := 3, cells := 0, slots := 0, locals := 71 }).room s m ([.ref (a 16), .int ro, .int n, .int dy] : List Value).toArray below meth c s.heap [] 0 0 (MQ below (QR (fun r : Int32 => True)) ([.ref (a 16), .int ro, .int n, .int dy] : List Value).toArray s 0 0 (fun _ => False)) (F0 m 13 ls []) := by
    intro nn
    induction nn with
    | zero =>
      intro y13_4 y13_6 ls i13_0 i13_1 hm
      exact absurd hm (Nat.not_lt_zero _)
    | succ nn ih13 =>
      intro y13_4 y13_6 ls i13_0 i13_1 hm hl
      refine lv_iload hx hb dX3_strengthOfRoom_13 (lv_at hl 5 rfl) ?_
      refine lv_iload hx hb dX3_strengthOfRoom_15 (lv_at hl 4 rfl) ?_
      refine lv_bipush (v := 6) hx hb dX3_strengthOfRoom_17 (by decide) ?_
      refine lv_iadd hx hb dX3_strengthOfRoom_19 ?_
      have f3 : (x2 + 6).toInt = (x2.toInt) + (6) := addC rfl (show (6 : Int32).toInt = 6 from rfl) (by omega) (by omega)
      refine lv_icmp_ge (tgt := 59) hx hb dX3_strengthOfRoom_20 (by decide) (fun c4 => ?_) (fun c4 => ?_)
      · have dc4 : (x2.toInt) + (6) ≤ y13_6.toInt := leC f3 rfl c4
        refine lv_iload hx hb dX3_strengthOfRoom_59 (lv_at hl 3 rfl) ?_
        exact W.iret (v := y13_4) hx hb hr (fun t ht hW => ⟨y13_4, rfl, trivial, ht⟩) (fun q h => by cases h) dX3_strengthOfRoom_61
      · have dc4 : y13_6.toInt < (x2.toInt) + (6) := nleC f3 rfl c4
        refine lv_aload_n hx hb dX3_strengthOfRoom_23 rfl (lv_at hl 0 rfl) ?_
        refine va_get (D := (dC, dI)) (ci := 3) (v := .ref (a 4)) (C := RX3) (T := TX3) (N := 9) hx hb hts inX3 hown hK hP 0 rfl rfl 0 (by decide) lf30 (fun _ h9 => h9) rfl dX3_strengthOfRoom_24 ?_
        refine va_getN (D := (dC, dI)) (ci := 1) (v := .ref (a 5)) (C := RX1) (T := TX1) (N := 13) hx hb hts inX1 hown hK hP 7 rfl rfl 1 (by decide) lf79 (fun _ h9 => h9) rfl dX3_strengthOfRoom_27 ?_
        refine lv_iload hx hb dX3_strengthOfRoom_30 (lv_at hl 5 rfl) ?_
        have b5 : vp_in y13_6 48 := inC rfl (by omega) (by omega)
        refine va_iald hx hb hK hP 8 0 rfl rfl b5 dX3_strengthOfRoom_32 ?_
        have g6 : -1 ≤ (top y13_6.toNatClampNeg).toInt ∧ (top y13_6.toNatClampNeg).toInt ≤ 23 := rg_at r_top b5
        refine lv_iconst (v := (-1)) hx hb dX3_strengthOfRoom_33 (by decide) ?_
        refine lv_icmp_eq (tgt := 53) hx hb dX3_strengthOfRoom_34 (by decide) (fun c7 => ?_) (fun c7 => ?_)
        · have dc7 : (top y13_6.toNatClampNeg).toInt = (-1) := eqC rfl (show ((-1) : Int32).toInt = (-1) from rfl) c7
          obtain ⟨z8, ez8⟩ : ∃ y : Int32, y = y13_6 + 1 := ⟨_, rfl⟩
          have iz8 : z8.toInt = y13_6.toInt + 1 := by rw [ez8]; exact addC rfl rfl (by omega) (by omega)
          refine lv_iinc (v := z8) (lv' := [(6, .int z8), (0, .ref (a 16)), (2, .int n), (3, .int dy), (4, .int y13_4), (5, .int x2)]) hx hb dX3_strengthOfRoom_53 hl (k := 5) rfl (by rw [ez8]; rfl) (by decide) rfl (fun ls hl => ?_)
          refine lv_goto (tgt := 13) hx hb dX3_strengthOfRoom_56 (by decide) ?_
          exact ih13 y13_4 z8 _ (by omega) (by omega) (by omega) (lv_sub hl [1, 2, 3, 4, 5, 0] rfl)
        · have dc7 : (top y13_6.toNatClampNeg).toInt ≠ (-1) := neC rfl (show ((-1) : Int32).toInt = (-1) from rfl) c7
          refine lv_iload hx hb dX3_strengthOfRoom_37 (lv_at hl 3 rfl) ?_
          refine lv_aload_n hx hb dX3_strengthOfRoom_39 rfl (lv_at hl 0 rfl) ?_
          refine va_get (D := (dC, dI)) (ci := 3) (v := .ref (a 4)) (C := RX3) (T := TX3) (N := 9) hx hb hts inX3 hown hK hP 0 rfl rfl 0 (by decide) lf30 (fun _ h9 => h9) rfl dX3_strengthOfRoom_40 ?_
          refine lv_iload hx hb dX3_strengthOfRoom_43 (lv_at hl 5 rfl) ?_
          refine lv_iload_n hx hb dX3_strengthOfRoom_45 rfl (lv_at hl 1 rfl) ?_
          refine lv_iload_n hx hb dX3_strengthOfRoom_46 rfl (lv_at hl 2 rfl) ?_
          refine rdV (As := [.int y13_6, .int n, .int dy]) (rest := [.int y13_4]) ⟨hx, hb, hml, hown, hts⟩ (k_X1_strengthBehind l dC dI cI cZ cQ a top str gho ghs pto cro pla wal fal tel gai day mar y13_6 n dy r_top r_str r_gho r_ghs r_cro r_pla r_fal r_gai r_day r_mar (by omega) (by omega) (by omega)) (cwV 3 hts gX3_strengthOfRoom_X1_strengthBehind rfl rfl rfl (by decide +kernel) ⟨Nat.le_of_ble_eq_true rfl, Nat.le_of_ble_eq_true rfl⟩) hP hK hN [7, 8, 9, 10, 11, 12, 13, 14, 15, 16, 17, 18] rfl 7 1 rfl rfl rfl hl.1 rfl (Nat.le_of_ble_eq_true rfl) dX3_strengthOfRoom_47 ⟨Nat.le_of_ble_eq_true rfl, Nat.le_of_ble_eq_true rfl⟩ (fun r9 h10 => ?_)
          have h10 : (0 ≤ r9.toInt) ∧ (r9.toInt ≤ 100) := h10
          obtain ⟨h10_0, h10_1⟩ := h10
          refine lv_iadd hx hb dX3_strengthOfRoom_50 ?_
          refine lv_topi (fun x11 ex11 => ?_)
          have ix11 : x11.toInt = (y13_4 + r9).toInt := by rw [ex11]
          refine lv_istore (lv' := [(4, .int x11), (0, .ref (a 16)), (2, .int n), (3, .int dy), (5, .int x2), (6, .int y13_6)]) hx hb dX3_strengthOfRoom_51 hl (by decide) rfl (fun ls hl => ?_)
          obtain ⟨z12, ez12⟩ : ∃ y : Int32, y = y13_6 + 1 := ⟨_, rfl⟩
          have iz12 : z12.toInt = y13_6.toInt + 1 := by rw [ez12]; exact addC rfl rfl (by omega) (by omega)
          refine lv_iinc (v := z12) (lv' := [(6, .int z12), (4, .int x11), (0, .ref (a 16)), (2, .int n), (3, .int dy), (5, .int x2)]) hx hb dX3_strengthOfRoom_53 hl (k := 5) rfl (by rw [ez12]; rfl) (by decide) rfl (fun ls hl => ?_)
          refine lv_goto (tgt := 13) hx hb dX3_strengthOfRoom_56 (by decide) ?_
          exact ih13 x11 z12 _ (by omega) (by omega) (by omega) (lv_sub hl [2, 3, 4, 1, 5, 0] rfl)
  have kc13 : (0 : Int32).toInt = 0 := rfl
  exact L13 _ 0 x2 _ (by omega) (by omega) (Nat.lt_succ_self _) (lv_sub hl [3, 5, 6, 2, 1, 0] rfl)
set_option maxHeartbeats 4000000 in
set_option maxRecDepth 100000 in
theorem k_X3_prepare (l : Launch) (dC : Nat → ClassId) (dI : Nat → Nat → Nat) (cI cZ cQ : ClassId) (a : Nat → Nat) (min : Nat → Int32) (tri : Nat → Int32) (bes : Nat → Int32) (wkd : Nat → Int32) (cos : Nat → Int32) (rst : Nat → Int32) (bst : Int32) (top : Nat → Int32) (str : Nat → Int32) (gho : Nat → Int32) (ghs : Nat → Int32) (pto : Nat → Int32) (cro : Nat → Int32) (pla : Nat → Int32) (wal : Nat → Int32) (fal : Nat → Int32) (tel : Int32) (gai : Int32) (day : Int32) (mar : Nat → Int32) (few : Nat → Int32) (doo : Int32) (sz : Nat) (r_wkd : rg 8 (0) (15) wkd) (r_top : rg 48 (-1) (23) top) (r_str : rg 48 (0) (100) str) (r_gho : rg 48 (-1) (23) gho) (r_ghs : rg 48 (0) (100) ghs) (r_cro : rg 48 (0) (6) cro) (r_pla : rg 24 (-1) (47) pla) (r_fal : rg 11 (0) (30) fal) (r_gai : 0 ≤ gai.toInt ∧ gai.toInt ≤ 100) (r_day : 0 ≤ day.toInt ∧ day.toInt ≤ 400) (r_mar : rg 24 (0) (255) mar) : KV l yX3_prepare wsX3_prepare { frames := 5, cells := 0, slots := 0, locals := 109 } (dC, dI) (TY cI cZ cQ) (wPln cI cZ cQ a min tri bes wkd cos rst bst top str gho ghs pto cro pla wal fal tel gai day mar few doo) [.ref (a 16)] sz 0 0 (fun (u : US) => (rg 48 (0) (6) (u.1 0)) ∧ (rg 8 (0) (15) (u.1 2))) (fun u : US => (wPln cI cZ cQ a min tri bes (u.1 2) (u.1 1) rst bst top str gho ghs pto (u.1 0) pla wal fal tel gai day mar few doo)) := by
  refine Met.ofW (cc := cX3_prepare) (maxL := 2) (ret := none) (by decide) rfl ?_
  intro p e s m args below meth c s₁ B hml hv
  obtain ⟨rfl, hsz, hP, hK, hD0, hN⟩ := hv
  have hx := B.exec
  have hb := B.bytes
  have hr := B.returns
  have hts := atoms_spec (ws := wsX3_prepare) B.pre
  have hown : s.vm.findClass RX3 = some m.cls := findClass_of_methodNamed B.named
  have hlocks := B.notSynchronized
  have lf30 := hts (.fieldLink RX3 30 "PalaceOfRooms$Planner" "corners" "LPalaceOfRooms$Corners;") (by decide +kernel)
  have inX3 : ∀ w ∈ wsX30, w ∈ wsX3_prepare := fun w h => List.mem_cons_of_mem _ (List.mem_append_left _ (List.mem_append_left _ (List.mem_append_left _ (List.mem_append_right _ h))))
  have lf24 := hts (.fieldLink RX3 24 "PalaceOfRooms$Planner" "costs" "[I") (by decide +kernel)
  have lf21 := hts (.fieldLink RX3 21 "PalaceOfRooms$Planner" "walkedDays" "[I") (by decide +kernel)
  subst hsz
  have hD := hD0.self (sz := s.heap.size)
  generalize hAe : va_A (wPln cI cZ cQ a min tri bes wkd cos rst bst top str gho ghs pto cro pla wal fal tel gai day mar few doo) s.heap.size = A at hD ⊢
  have hA : ∀ q : Nat, s.heap.size ≤ q → A q := fun q h => by rw [← hAe]; exact Or.inr h
  have hS : va_S A s.heap s.heap [] := va_S.rf
  have hl := lv_entry ([.ref (a 16)]) (n := 2) (Nat.le_of_ble_eq_true rfl)
  rw [lg_entry_eq]
  generalize (lg_sl ([.ref (a 16)]) ++ List.replicate (2 - (lg_sl ([.ref (a 16)])).length) Slot.unset).toArray = ls at hl ⊢
  have hl : lv_has ls 2 [(0, .ref (a 16))] := hl
  refine lv_aload_n hx hb dX3_prepare_0 rfl (lv_at hl 0 rfl) ?_
  refine va_get (D := (dC, dI)) (ci := 3) (v := .ref (a 4)) (C := RX3) (T := TX3) (N := 9) hx hb hts inX3 hown hK hP 0 rfl rfl 0 (by decide) lf30 (fun _ h9 => h9) rfl dX3_prepare_1 ?_
  refine wvV (As := []) (rest := []) (wr := [((a 16), .inr (3, [.ref (a 4), .ref (a 0), .ref (a 17), .ref (a 18), .ref (a 19), .ref (a 20), .ref (a 21), .ref (a 22), .int bst])), ((a 17), .inl (cI, 4, .inl min)), ((a 18), .inl (cI, 4, .inl tri)), ((a 19), .inl (cI, 4, .inl bes)), ((a 20), .inl (cI, 8, .inl wkd)), ((a 21), .inl (cI, 8, .inl cos)), ((a 22), .inl (cI, 128, .inl rst)), ((a 0), .inr (8, [.ref (a 1), .int doo])), ((a 1), .inl (cI, 64, .inl few))]) (w2 := (fun u : US => (wPln cI cZ cQ a min tri bes wkd cos rst bst top str gho ghs pto (u.1 0) pla wal fal tel gai day mar few doo))) ⟨hx, hb, hml, hown, hts⟩ (k_X1_countCrowds l dC dI cI cZ cQ a top str gho ghs pto cro pla wal fal tel gai day mar _ r_top r_str r_gho r_ghs r_cro r_pla r_fal r_gai r_day r_mar) (cwV 0 hts gX3_prepare_X1_countCrowds rfl rfl rfl (by decide +kernel) ⟨Nat.le_of_ble_eq_true rfl, Nat.le_of_ble_eq_true rfl⟩) hP hD hS hA hK hN [7, 8, 9, 10, 11, 12, 13, 14, 15, 16, 17, 18] [0, 1, 2, 3, 4, 5, 6, 19, 20] [0, 1, 2, 3, 4, 5, 6, 9, 10, 11, 12, 13, 14, 15, 16, 17, 18, 19, 20, 7, 8] rfl rfl (by decide) (by decide) (by decide) (fun _ => rfl) (by decide) 7 1 rfl rfl rfl hl.1 rfl (Nat.le_of_ble_eq_true rfl) dX3_prepare_4 ⟨Nat.le_of_ble_eq_true rfl, Nat.le_of_ble_eq_true rfl⟩ (fun u3 H locs h2 hP hD hS => ?_)
  obtain ⟨cro_c4, ecro_c4⟩ : ∃ f : Nat → Int32, f = (u3.1 0) := ⟨_, rfl⟩
  have hP : va_P (dC, dI) vwCl (wPln cI cZ cQ a min tri bes wkd cos rst bst top str gho ghs pto cro_c4 pla wal fal tel gai day mar few doo) H := by rw [ecro_c4]; exact hP
  have hD : va_D A (wPln cI cZ cQ a min tri bes wkd cos rst bst top str gho ghs pto cro_c4 pla wal fal tel gai day mar few doo) := by rw [ecro_c4]; exact hD
  have h2 : (rg 48 (0) (6) cro_c4) := by (try rw [ecro_c4]); exact h2
  have h2_0 := h2
  refine lv_iconst (v := 0) hx hb dX3_prepare_7 (by decide) ?_
  refine lv_istore_n (lv' := [(1, .int 0), (0, .ref (a 16))]) hx hb dX3_prepare_8 rfl hl (by decide) rfl (fun ls hl => ?_)
  have L9 : ∀ (nn : Nat) (y9_1 : Int32) (cos_9 : Nat → Int32) (wkd_9 : Nat → Int32) (H : Heap) (locs : List Loc) (ls : Array Slot), (rg 8 (0) (15) wkd_9) → (0 ≤ (y9_1.toInt)) → ((y9_1.toInt) ≤ 8) → (8 - (y9_1.toInt)).toNat < nn → va_P (dC, dI) vwCl (wPln cI cZ cQ a min tri bes wkd_9 cos_9 rst bst top str gho ghs pto cro_c4 pla wal fal tel gai day mar few doo) H → va_D A (wPln cI cZ cQ a min tri bes wkd_9 cos_9 rst bst top str gho ghs pto cro_c4 pla wal fal tel gai day mar few doo) → va_S A s.heap H locs → lv_has ls 2 [(0, .ref (a 16)), (1, .int y9_1)] → W p l e (headSpec wsX3_prepare { frames := 5, cells := 0, slots := 0, locals := 109 }).room s m ([.ref (a 16)] : List Value).toArray below meth c H locs 0 0 (MQ below (va_Qv (fun (u : US) => (rg 48 (0) (6) (u.1 0)) ∧ (rg 8 (0) (15) (u.1 2))) (Bw (dC, dI) A (fun u : US => (wPln cI cZ cQ a min tri bes (u.1 2) (u.1 1) rst bst top str gho ghs pto (u.1 0) pla wal fal tel gai day mar few doo))) A) ([.ref (a 16)] : List Value).toArray s 0 0 A) (F0 m 9 ls []) := by
    intro nn
    induction nn with
    | zero =>
      intro y9_1 cos_9 wkd_9 H locs ls r_wkd_9 i9_0 i9_1 hm
      exact absurd hm (Nat.not_lt_zero _)
    | succ nn ih9 =>
      intro y9_1 cos_9 wkd_9 H locs ls r_wkd_9 i9_0 i9_1 hm hP hD hS hl
      refine lv_iload_n hx hb dX3_prepare_9 rfl (lv_at hl 1 rfl) ?_
      refine lv_bipush (v := 8) hx hb dX3_prepare_10 (by decide) ?_
      refine lv_icmp_ge (tgt := 39) hx hb dX3_prepare_12 (by decide) (fun c5 => ?_) (fun c5 => ?_)
      · have dc5 : 8 ≤ y9_1.toInt := leC (show (8 : Int32).toInt = 8 from rfl) rfl c5
        exact W.vret hx hb hr (fun t ht hW => ⟨⟨(uS [cro_c4, cos_9, wkd_9] 0 (fun _ => 0)), rfl, ⟨h2_0, r_wkd_9⟩, by rw [ht]; exact hP, hD⟩, hS.F ht⟩) hS.2.2 dX3_prepare_39
      · have dc5 : y9_1.toInt < 8 := nleC (show (8 : Int32).toInt = 8 from rfl) rfl c5
        refine lv_aload_n hx hb dX3_prepare_15 rfl (lv_at hl 0 rfl) ?_
        refine va_get (D := (dC, dI)) (ci := 3) (v := .ref (a 21)) (C := RX3) (T := TX3) (N := 9) hx hb hts inX3 hown hK hP 0 rfl rfl 6 (by decide) lf24 (fun _ h9 => h9) rfl dX3_prepare_16 ?_
        refine lv_iload_n hx hb dX3_prepare_19 rfl (lv_at hl 1 rfl) ?_
        refine lv_aload_n hx hb dX3_prepare_20 rfl (lv_at hl 0 rfl) ?_
        refine lv_iload_n hx hb dX3_prepare_21 rfl (lv_at hl 1 rfl) ?_
        refine rdV (As := [.int y9_1]) (rest := [.int y9_1, .ref (a 21)]) ⟨hx, hb, hml, hown, hts⟩ (k_X3_costOf l dC dI cI cZ cQ a min tri bes wkd_9 cos_9 rst bst top str gho ghs pto cro_c4 pla wal fal tel gai day mar few doo y9_1 r_wkd_9 r_top r_str r_gho r_ghs h2_0 r_pla r_fal r_gai r_day r_mar (by omega) (by omega)) (cwV 1 hts gX3_prepare_X3_costOf rfl rfl rfl (by decide +kernel) ⟨Nat.le_of_ble_eq_true rfl, Nat.le_of_ble_eq_true rfl⟩) hP hK hN [0, 1, 2, 3, 4, 5, 6, 7, 8, 9, 10, 11, 12, 13, 14, 15, 16, 17, 18, 19, 20] rfl 0 3 rfl rfl rfl hl.1 rfl (Nat.le_of_ble_eq_true rfl) dX3_prepare_22 ⟨Nat.le_of_ble_eq_true rfl, Nat.le_of_ble_eq_true rfl⟩ (fun r6 h7 => ?_)
        have h7 : True := h7
        have b8 : vp_in y9_1 8 := inC rfl (by omega) (by omega)
        refine va_iast hx hb hK hP hD hS 5 0 rfl rfl b8 dX3_prepare_25 (fun H locs hP hD hS => ?_)
        obtain ⟨cos_u9, ecos_u9⟩ : ∃ f : Nat → Int32, f = upd cos_9 y9_1.toNatClampNeg r6 := ⟨_, rfl⟩
        have hP : va_P (dC, dI) vwCl (wPln cI cZ cQ a min tri bes wkd_9 cos_u9 rst bst top str gho ghs pto cro_c4 pla wal fal tel gai day mar few doo) H := by rw [ecos_u9]; exact hP
        have hD : va_D A (wPln cI cZ cQ a min tri bes wkd_9 cos_u9 rst bst top str gho ghs pto cro_c4 pla wal fal tel gai day mar few doo) := by rw [ecos_u9]; exact hD
        refine lv_aload_n hx hb dX3_prepare_26 rfl (lv_at hl 0 rfl) ?_
        refine va_get (D := (dC, dI)) (ci := 3) (v := .ref (a 20)) (C := RX3) (T := TX3) (N := 9) hx hb hts inX3 hown hK hP 0 rfl rfl 5 (by decide) lf21 (fun _ h9 => h9) rfl dX3_prepare_27 ?_
        refine lv_iload_n hx hb dX3_prepare_30 rfl (lv_at hl 1 rfl) ?_
        refine lv_iconst (v := 0) hx hb dX3_prepare_31 (by decide) ?_
        have b10 : vp_in y9_1 8 := inC rfl (by omega) (by omega)
        have g11 : rg 8 (0) (15) (upd wkd_9 y9_1.toNatClampNeg 0) := rg_upd r_wkd_9 (show (0 : Int32).toInt = 0 from rfl) (by omega) (by omega)
        refine va_iast hx hb hK hP hD hS 4 0 rfl rfl b10 dX3_prepare_32 (fun H locs hP hD hS => ?_)
        obtain ⟨wkd_u12, ewkd_u12⟩ : ∃ f : Nat → Int32, f = upd wkd_9 y9_1.toNatClampNeg 0 := ⟨_, rfl⟩
        have rwkd_u12 : rg 8 (0) (15) wkd_u12 := by rw [ewkd_u12]; exact g11
        have hP : va_P (dC, dI) vwCl (wPln cI cZ cQ a min tri bes wkd_u12 cos_u9 rst bst top str gho ghs pto cro_c4 pla wal fal tel gai day mar few doo) H := by rw [ewkd_u12]; exact hP
        have hD : va_D A (wPln cI cZ cQ a min tri bes wkd_u12 cos_u9 rst bst top str gho ghs pto cro_c4 pla wal fal tel gai day mar few doo) := by rw [ewkd_u12]; exact hD
        obtain ⟨z13, ez13⟩ : ∃ y : Int32, y = y9_1 + 1 := ⟨_, rfl⟩
        have iz13 : z13.toInt = y9_1.toInt + 1 := by rw [ez13]; exact addC rfl rfl (by omega) (by omega)
        refine lv_iinc (v := z13) (lv' := [(1, .int z13), (0, .ref (a 16))]) hx hb dX3_prepare_33 hl (k := 1) rfl (by rw [ez13]; rfl) (by decide) rfl (fun ls hl => ?_)
        refine lv_goto (tgt := 9) hx hb dX3_prepare_36 (by decide) ?_
        exact ih9 z13 cos_u9 wkd_u12 _ _ _ rwkd_u12 (by omega) (by omega) (by omega) hP hD hS (lv_sub hl [1, 0] rfl)
  have kc14 : (0 : Int32).toInt = 0 := rfl
  exact L9 _ 0 cos wkd _ _ _ r_wkd (by omega) (by omega) (Nat.lt_succ_self _) hP hD hS (lv_sub hl [1, 0] rfl)
set_option maxHeartbeats 4000000 in
set_option maxRecDepth 100000 in
theorem k_X3_strengthBehindTrial (l : Launch) (dC : Nat → ClassId) (dI : Nat → Nat → Nat) (cI cZ cQ : ClassId) (a : Nat → Nat) (min : Nat → Int32) (tri : Nat → Int32) (bes : Nat → Int32) (wkd : Nat → Int32) (cos : Nat → Int32) (rst : Nat → Int32) (bst : Int32) (top : Nat → Int32) (str : Nat → Int32) (gho : Nat → Int32) (ghs : Nat → Int32) (pto : Nat → Int32) (cro : Nat → Int32) (pla : Nat → Int32) (wal : Nat → Int32) (fal : Nat → Int32) (tel : Int32) (gai : Int32) (day : Int32) (mar : Nat → Int32) (few : Nat → Int32) (doo : Int32) (sz : Nat) (n : Int32) (r_wkd : rg 8 (0) (15) wkd) (r_top : rg 48 (-1) (23) top) (r_str : rg 48 (0) (100) str) (r_gho : rg 48 (-1) (23) gho) (r_ghs : rg 48 (0) (100) ghs) (r_cro : rg 48 (0) (6) cro) (r_pla : rg 24 (-1) (47) pla) (r_fal : rg 11 (0) (30) fal) (r_gai : 0 ≤ gai.toInt ∧ gai.toInt ≤ 100) (r_day : 0 ≤ day.toInt ∧ day.toInt ≤ 400) (r_mar : rg 24 (0) (255) mar) (q0 : 1 ≤ n.toInt) (q1 : n.toInt ≤ 4) : KW l yX3_strengthBehindTrial wsX3_strengthBehindTrial { frames := 6, cells := 0, slots := 0, locals := 130 } (dC, dI) (TY cI cZ cQ) (wPln cI cZ cQ a min tri bes wkd cos rst bst top str gho ghs pto cro pla wal fal tel gai day mar few doo) [.ref (a 16), .int n] sz 0 0 (fun (r : Int32) (u : US) => (rg 48 (0) (6) (u.1 0)) ∧ (rg 8 (0) (15) (u.1 2))) (fun u : US => (wPln cI cZ cQ a min tri bes (u.1 2) (u.1 1) rst bst top str gho ghs pto (u.1 0) pla wal fal tel gai day mar few doo)) := by
  refine Met.ofW (cc := cX3_strengthBehindTrial) (maxL := 4) (ret := (some .int)) (by decide) rfl ?_
  intro p e s m args below meth c s₁ B hml hv
  obtain ⟨rfl, hsz, hP, hK, hD0, hN⟩ := hv
  have hx := B.exec
  have hb := B.bytes
  have hr := B.returns
  have hts := atoms_spec (ws := wsX3_strengthBehindTrial) B.pre
  have hown : s.vm.findClass RX3 = some m.cls := findClass_of_methodNamed B.named
  have hlocks := B.notSynchronized
  have lf21 := hts (.fieldLink RX3 21 "PalaceOfRooms$Planner" "walkedDays" "[I") (by decide +kernel)
  have inX3 : ∀ w ∈ wsX30, w ∈ wsX3_strengthBehindTrial := fun w h => List.mem_cons_of_mem _ (List.mem_append_left _ (List.mem_append_left _ (List.mem_append_left _ (List.mem_append_right _ h))))
  have lf15 := hts (.fieldLink RX3 15 "PalaceOfRooms$Planner" "trial" "[I") (by decide +kernel)
  subst hsz
  have hD := hD0.self (sz := s.heap.size)
  generalize hAe : va_A (wPln cI cZ cQ a min tri bes wkd cos rst bst top str gho ghs pto cro pla wal fal tel gai day mar few doo) s.heap.size = A at hD ⊢
  have hA : ∀ q : Nat, s.heap.size ≤ q → A q := fun q h => by rw [← hAe]; exact Or.inr h
  have hS : va_S A s.heap s.heap [] := va_S.rf
  have hl := lv_entry ([.ref (a 16), .int n]) (n := 4) (Nat.le_of_ble_eq_true rfl)
  rw [lg_entry_eq]
  generalize (lg_sl ([.ref (a 16), .int n]) ++ List.replicate (4 - (lg_sl ([.ref (a 16), .int n])).length) Slot.unset).toArray = ls at hl ⊢
  have hl : lv_has ls 4 [(0, .ref (a 16)), (1, .int n)] := hl
  refine lv_aload_n hx hb dX3_strengthBehindTrial_0 rfl (lv_at hl 0 rfl) ?_
  refine wvV (As := []) (rest := []) (wr := []) (w2 := (fun u : US => (wPln cI cZ cQ a min tri bes (u.1 2) (u.1 1) rst bst top str gho ghs pto (u.1 0) pla wal fal tel gai day mar few doo))) ⟨hx, hb, hml, hown, hts⟩ (k_X3_prepare l dC dI cI cZ cQ a min tri bes wkd cos rst bst top str gho ghs pto cro pla wal fal tel gai day mar few doo _ r_wkd r_top r_str r_gho r_ghs r_cro r_pla r_fal r_gai r_day r_mar) (cwV 0 hts gX3_strengthBehindTrial_X3_prepare rfl rfl rfl (by decide +kernel) ⟨Nat.le_of_ble_eq_true rfl, Nat.le_of_ble_eq_true rfl⟩) hP hD hS hA hK hN [0, 1, 2, 3, 4, 5, 6, 7, 8, 9, 10, 11, 12, 13, 14, 15, 16, 17, 18, 19, 20] [] [0, 1, 2, 3, 4, 5, 6, 7, 8, 9, 10, 11, 12, 13, 14, 15, 16, 17, 18, 19, 20] rfl rfl (by decide) (by decide) (by decide) (fun _ => rfl) (by decide) 0 3 rfl rfl rfl hl.1 rfl (Nat.le_of_ble_eq_true rfl) dX3_strengthBehindTrial_1 ⟨Nat.le_of_ble_eq_true rfl, Nat.le_of_ble_eq_true rfl⟩ (fun u3 H locs h2 hP hD hS => ?_)
  obtain ⟨cro_c4, ecro_c4⟩ : ∃ f : Nat → Int32, f = (u3.1 0) := ⟨_, rfl⟩
  obtain ⟨cos_c5, ecos_c5⟩ : ∃ f : Nat → Int32, f = (u3.1 1) := ⟨_, rfl⟩
  obtain ⟨wkd_c6, ewkd_c6⟩ : ∃ f : Nat → Int32, f = (u3.1 2) := ⟨_, rfl⟩
  have hP : va_P (dC, dI) vwCl (wPln cI cZ cQ a min tri bes wkd_c6 cos_c5 rst bst top str gho ghs pto cro_c4 pla wal fal tel gai day mar few doo) H := by rw [ecro_c4, ecos_c5, ewkd_c6]; exact hP
  have hD : va_D A (wPln cI cZ cQ a min tri bes wkd_c6 cos_c5 rst bst top str gho ghs pto cro_c4 pla wal fal tel gai day mar few doo) := by rw [ecro_c4, ecos_c5, ewkd_c6]; exact hD
  have h2 : (rg 48 (0) (6) cro_c4) ∧ (rg 8 (0) (15) wkd_c6) := by (try rw [ecro_c4]); (try rw [ecos_c5]); (try rw [ewkd_c6]); exact h2
  obtain ⟨h2_0, h2_1⟩ := h2
  refine lv_iconst (v := 0) hx hb dX3_strengthBehindTrial_4 (by decide) ?_
  refine lv_istore_n (lv' := [(2, .int 0), (0, .ref (a 16)), (1, .int n)]) hx hb dX3_strengthBehindTrial_5 rfl hl (by decide) rfl (fun ls hl => ?_)
  have L6 : ∀ (nn : Nat) (y6_2 : Int32) (wkd_6 : Nat → Int32) (H : Heap) (locs : List Loc) (ls : Array Slot), (rg 8 (0) (15) wkd_6) → (0 ≤ (y6_2.toInt)) → ((y6_2.toInt) ≤ 4) → (4 - (y6_2.toInt)).toNat < nn → va_P (dC, dI) vwCl (wPln cI cZ cQ a min tri bes wkd_6 cos_c5 rst bst top str gho ghs pto cro_c4 pla wal fal tel gai day mar few doo) H → va_D A (wPln cI cZ cQ a min tri bes wkd_6 cos_c5 rst bst top str gho ghs pto cro_c4 pla wal fal tel gai day mar few doo) → va_S A s.heap H locs → lv_has ls 4 [(0, .ref (a 16)), (1, .int n), (2, .int y6_2)] → W p l e (headSpec wsX3_strengthBehindTrial { frames := 6, cells := 0, slots := 0, locals := 130 }).room s m ([.ref (a 16), .int n] : List Value).toArray below meth c H locs 0 0 (MQ below (va_Qi (fun (r : Int32) (u : US) => (rg 48 (0) (6) (u.1 0)) ∧ (rg 8 (0) (15) (u.1 2))) (Bw (dC, dI) A (fun u : US => (wPln cI cZ cQ a min tri bes (u.1 2) (u.1 1) rst bst top str gho ghs pto (u.1 0) pla wal fal tel gai day mar few doo))) A) ([.ref (a 16), .int n] : List Value).toArray s 0 0 A) (F0 m 6 ls []) := by
    intro nn
    induction nn with
    | zero =>
      intro y6_2 wkd_6 H locs ls r_wkd_6 i6_0 i6_1 hm
      exact absurd hm (Nat.not_lt_zero _)
    | succ nn ih6 =>
      intro y6_2 wkd_6 H locs ls r_wkd_6 i6_0 i6_1 hm hP hD hS hl
      refine lv_iload_n hx hb dX3_strengthBehindTrial_6 rfl (lv_at hl 2 rfl) ?_
      refine lv_iload_n hx hb dX3_strengthBehindTrial_7 rfl (lv_at hl 1 rfl) ?_
      refine lv_icmp_ge (tgt := 54) hx hb dX3_strengthBehindTrial_8 (by decide) (fun c7 => ?_) (fun c7 => ?_)
      · have dc7 : n.toInt ≤ y6_2.toInt := leC rfl rfl c7
        refine lv_iconst (v := 0) hx hb dX3_strengthBehindTrial_54 (by decide) ?_
        refine lv_istore_n (lv' := [(2, .int 0), (0, .ref (a 16)), (1, .int n)]) hx hb dX3_strengthBehindTrial_55 rfl hl (by decide) rfl (fun ls hl => ?_)
        refine lv_iconst (v := 0) hx hb dX3_strengthBehindTrial_56 (by decide) ?_
        refine lv_istore_n (lv' := [(3, .int 0), (2, .int 0), (0, .ref (a 16)), (1, .int n)]) hx hb dX3_strengthBehindTrial_57 rfl hl (by decide) rfl (fun ls hl => ?_)
        have L58 : ∀ (nn : Nat) (y58_2 : Int32) (y58_3 : Int32) (H : Heap) (locs : List Loc) (ls : Array Slot), (0 ≤ (y58_3.toInt)) → ((y58_3.toInt) ≤ 8) → (8 - (y58_3.toInt)).toNat < nn → va_P (dC, dI) vwCl (wPln cI cZ cQ a min tri bes wkd_6 cos_c5 rst bst top str gho ghs pto cro_c4 pla wal fal tel gai day mar few doo) H → va_D A (wPln cI cZ cQ a min tri bes wkd_6 cos_c5 rst bst top str gho ghs pto cro_c4 pla wal fal tel gai day mar few doo) → va_S A s.heap H locs → lv_has ls 4 [(0, .ref (a 16)), (1, .int n), (2, .int y58_2), (3, .int y58_3)] → W p l e (headSpec wsX3_strengthBehindTrial { frames := 6, cells := 0, slots := 0, locals := 130 }).room s m ([.ref (a 16), .int n] : List Value).toArray below meth c H locs 0 0 (MQ below (va_Qi (fun (r : Int32) (u : US) => (rg 48 (0) (6) (u.1 0)) ∧ (rg 8 (0) (15) (u.1 2))) (Bw (dC, dI) A (fun u : US => (wPln cI cZ cQ a min tri bes (u.1 2) (u.1 1) rst bst top str gho ghs pto (u.1 0) pla wal fal tel gai day mar few doo))) A) ([.ref (a 16), .int n] : List Value).toArray s 0 0 A) (F0 m 58 ls []) := by
          intro nn
          induction nn with
          | zero =>
            intro y58_2 y58_3 H locs ls i58_0 i58_1 hm
            exact absurd hm (Nat.not_lt_zero _)
          | succ nn ih58 =>
            intro y58_2 y58_3 H locs ls i58_0 i58_1 hm hP hD hS hl
            refine lv_iload_n hx hb dX3_strengthBehindTrial_58 rfl (lv_at hl 3 rfl) ?_
            refine lv_bipush (v := 8) hx hb dX3_strengthBehindTrial_59 (by decide) ?_
            refine lv_icmp_ge (tgt := 85) hx hb dX3_strengthBehindTrial_61 (by decide) (fun c8 => ?_) (fun c8 => ?_)
            · have dc8 : 8 ≤ y58_3.toInt := leC (show (8 : Int32).toInt = 8 from rfl) rfl c8
              refine lv_iload_n hx hb dX3_strengthBehindTrial_85 rfl (lv_at hl 2 rfl) ?_
              exact W.iret (v := y58_2) hx hb hr (fun t ht hW => ⟨⟨y58_2, (uS [cro_c4, cos_c5, wkd_6] 0 (fun _ => 0)), rfl, ⟨h2_0, r_wkd_6⟩, by rw [ht]; exact hP, hD⟩, hS.F ht⟩) hS.2.2 dX3_strengthBehindTrial_86
            · have dc8 : y58_3.toInt < 8 := nleC (show (8 : Int32).toInt = 8 from rfl) rfl c8
              refine lv_iload_n hx hb dX3_strengthBehindTrial_64 rfl (lv_at hl 2 rfl) ?_
              refine lv_aload_n hx hb dX3_strengthBehindTrial_65 rfl (lv_at hl 0 rfl) ?_
              refine lv_iload_n hx hb dX3_strengthBehindTrial_66 rfl (lv_at hl 3 rfl) ?_
              refine lv_iload_n hx hb dX3_strengthBehindTrial_67 rfl (lv_at hl 1 rfl) ?_
              refine lv_aload_n hx hb dX3_strengthBehindTrial_68 rfl (lv_at hl 0 rfl) ?_
              refine va_get (D := (dC, dI)) (ci := 3) (v := .ref (a 20)) (C := RX3) (T := TX3) (N := 9) hx hb hts inX3 hown hK hP 0 rfl rfl 5 (by decide) lf21 (fun _ h9 => h9) rfl dX3_strengthBehindTrial_69 ?_
              refine lv_iload_n hx hb dX3_strengthBehindTrial_72 rfl (lv_at hl 3 rfl) ?_
              have b9 : vp_in y58_3 8 := inC rfl (by omega) (by omega)
              refine va_iald hx hb hK hP 4 0 rfl rfl b9 dX3_strengthBehindTrial_73 ?_
              have g10 : 0 ≤ (wkd_6 y58_3.toNatClampNeg).toInt ∧ (wkd_6 y58_3.toNatClampNeg).toInt ≤ 15 := rg_at r_wkd_6 b9
              refine rdV (As := [.int y58_3, .int n, .int (wkd_6 y58_3.toNatClampNeg)]) (rest := [.int y58_2]) ⟨hx, hb, hml, hown, hts⟩ (k_X3_strengthOfRoom l dC dI cI cZ cQ a min tri bes wkd_6 cos_c5 rst bst top str gho ghs pto cro_c4 pla wal fal tel gai day mar few doo y58_3 n (wkd_6 y58_3.toNatClampNeg) r_wkd_6 r_top r_str r_gho r_ghs h2_0 r_pla r_fal r_gai r_day r_mar (by omega) (by omega) (by omega)) (cwV 3 hts gX3_strengthBehindTrial_X3_strengthOfRoom rfl rfl rfl (by decide +kernel) ⟨Nat.le_of_ble_eq_true rfl, Nat.le_of_ble_eq_true rfl⟩) hP hK hN [0, 1, 2, 3, 4, 5, 6, 7, 8, 9, 10, 11, 12, 13, 14, 15, 16, 17, 18, 19, 20] rfl 0 3 rfl rfl rfl hl.1 rfl (Nat.le_of_ble_eq_true rfl) dX3_strengthBehindTrial_74 ⟨Nat.le_of_ble_eq_true rfl, Nat.le_of_ble_eq_true rfl⟩ (fun r11 h12 => ?_)
              have h12 : True := h12
              refine lv_iadd hx hb dX3_strengthBehindTrial_77 ?_
              refine lv_topi (fun x13 ex13 => ?_)
              have ix13 : x13.toInt = (y58_2 + r11).toInt := by rw [ex13]
              refine lv_istore_n (lv' := [(2, .int x13), (0, .ref (a 16)), (1, .int n), (3, .int y58_3)]) hx hb dX3_strengthBehindTrial_78 rfl hl (by decide) rfl (fun ls hl => ?_)
              obtain ⟨z14, ez14⟩ : ∃ y : Int32, y = y58_3 + 1 := ⟨_, rfl⟩
              have iz14 : z14.toInt = y58_3.toInt + 1 := by rw [ez14]; exact addC rfl rfl (by omega) (by omega)
              refine lv_iinc (v := z14) (lv' := [(3, .int z14), (2, .int x13), (0, .ref (a 16)), (1, .int n)]) hx hb dX3_strengthBehindTrial_79 hl (k := 3) rfl (by rw [ez14]; rfl) (by decide) rfl (fun ls hl => ?_)
              refine lv_goto (tgt := 58) hx hb dX3_strengthBehindTrial_82 (by decide) ?_
              exact ih58 x13 z14 _ _ _ (by omega) (by omega) (by omega) hP hD hS (lv_sub hl [2, 3, 1, 0] rfl)
        have kc15 : (0 : Int32).toInt = 0 := rfl
        exact L58 _ 0 0 _ _ _ (by omega) (by omega) (Nat.lt_succ_self _) hP hD hS (lv_sub hl [2, 3, 1, 0] rfl)
      · have dc7 : y6_2.toInt < n.toInt := nleC rfl rfl c7
        refine lv_aload_n hx hb dX3_strengthBehindTrial_11 rfl (lv_at hl 0 rfl) ?_
        refine va_get (D := (dC, dI)) (ci := 3) (v := .ref (a 18)) (C := RX3) (T := TX3) (N := 9) hx hb hts inX3 hown hK hP 0 rfl rfl 3 (by decide) lf15 (fun _ h9 => h9) rfl dX3_strengthBehindTrial_12 ?_
        refine lv_iload_n hx hb dX3_strengthBehindTrial_15 rfl (lv_at hl 2 rfl) ?_
        have b16 : vp_in y6_2 4 := inC rfl (by omega) (by omega)
        refine va_iald hx hb hK hP 2 0 rfl rfl b16 dX3_strengthBehindTrial_16 ?_
        refine lv_topi (fun x17 ex17 => ?_)
        have ix17 : x17.toInt = (tri y6_2.toNatClampNeg).toInt := by rw [ex17]
        refine lv_istore_n (lv' := [(3, .int x17), (0, .ref (a 16)), (1, .int n), (2, .int y6_2)]) hx hb dX3_strengthBehindTrial_17 rfl hl (by decide) rfl (fun ls hl => ?_)
        refine lv_iload_n hx hb dX3_strengthBehindTrial_18 rfl (lv_at hl 0 rfl) ?_
        refine rdSN (As := [.int x17]) (rest := []) ⟨hx, hb, hml, hown, hts⟩ (k_X9_isRoom l dC dI cI cZ cQ x17) ⟨va_cnB (host := "PalaceOfRooms") 1 hts gX3_strengthBehindTrial_X9_isRoom_n53 rfl rfl rfl (hN _ (by decide +kernel)) (hts (.initialized RX9) (by decide +kernel)) (by decide +kernel) ⟨Nat.le_of_ble_eq_true rfl, Nat.le_of_ble_eq_true rfl⟩, hts (.static yX9_isRoom) (by decide +kernel), trivial⟩ hP hK hN [] rfl rfl hl.1 rfl (Nat.le_of_ble_eq_true rfl) dX3_strengthBehindTrial_19 ⟨Nat.le_of_ble_eq_true rfl, Nat.le_of_ble_eq_true rfl⟩ (fun r18 h19 => ?_)
        have h19 : ((((r18 = 1) ∧ (0 ≤ x17.toInt) ∧ (x17.toInt ≤ 7)) ∨ ((r18 = 0) ∧ (x17.toInt < 0 ∨ 7 < x17.toInt)))) := h19
        rcases h19 with (⟨rfl, h19_a0, h19_a1⟩ | ⟨rfl, h19_a0⟩)
        · refine lv_if_eq (tgt := 48) hx hb dX3_strengthBehindTrial_22 (by decide) (fun c9 => absurd c9 (by decide)) (fun _ => ?_)
          refine lv_aload_n hx hb dX3_strengthBehindTrial_25 rfl (lv_at hl 1 rfl) ?_
          refine lv_iload_n hx hb dX3_strengthBehindTrial_26 rfl (lv_at hl 0 rfl) ?_
          refine lv_iload_n hx hb dX3_strengthBehindTrial_27 rfl (lv_at hl 3 rfl) ?_
          refine rdV (As := [.int x17, .int y6_2]) (rest := []) ⟨hx, hb, hml, hown, hts⟩ (k_X3_walkable l dC dI cI cZ cQ a min tri bes wkd_6 cos_c5 rst bst top str gho ghs pto cro_c4 pla wal fal tel gai day mar few doo x17 y6_2 r_wkd_6 r_top r_str r_gho r_ghs h2_0 r_pla r_fal r_gai r_day r_mar (by omega) (by omega) (by omega) (by omega)) (cwV 2 hts gX3_strengthBehindTrial_X3_walkable rfl rfl rfl (by decide +kernel) ⟨Nat.le_of_ble_eq_true rfl, Nat.le_of_ble_eq_true rfl⟩) hP hK hN [0, 1, 2, 3, 4, 5, 6, 7, 8, 9, 10, 11, 12, 13, 14, 15, 16, 17, 18, 19, 20] rfl 0 3 rfl rfl rfl hl.1 rfl (Nat.le_of_ble_eq_true rfl) dX3_strengthBehindTrial_28 ⟨Nat.le_of_ble_eq_true rfl, Nat.le_of_ble_eq_true rfl⟩ (fun r20 h21 => ?_)
          have h21 : ((((r20 = 1)) ∨ ((r20 = 0)))) := h21
          rcases h21 with (rfl | rfl)
          · refine lv_if_ne (tgt := 36) hx hb dX3_strengthBehindTrial_31 (by decide) (fun _ => ?_) (fun c9 => absurd c9 (by decide))
            refine lv_aload_n hx hb dX3_strengthBehindTrial_36 rfl (lv_at hl 1 rfl) ?_
            refine va_get (D := (dC, dI)) (ci := 3) (v := .ref (a 20)) (C := RX3) (T := TX3) (N := 9) hx hb hts inX3 hown hK hP 0 rfl rfl 5 (by decide) lf21 (fun _ h9 => h9) rfl dX3_strengthBehindTrial_37 ?_
            refine lv_iload_n hx hb dX3_strengthBehindTrial_40 rfl (lv_at hl 0 rfl) ?_
            refine lv_dup2_11 hx hb dX3_strengthBehindTrial_41 rfl rfl ?_
            have b22 : vp_in x17 8 := inC rfl (by omega) (by omega)
            refine va_iald hx hb hK hP 4 0 rfl rfl b22 dX3_strengthBehindTrial_42 ?_
            have g23 : 0 ≤ (wkd_6 x17.toNatClampNeg).toInt ∧ (wkd_6 x17.toNatClampNeg).toInt ≤ 15 := rg_at r_wkd_6 b22
            refine lv_iconst (v := 1) hx hb dX3_strengthBehindTrial_43 (by decide) ?_
            refine lv_iload_n hx hb dX3_strengthBehindTrial_44 rfl (lv_at hl 3 rfl) ?_
            refine lv_ishl hx hb dX3_strengthBehindTrial_45 ?_
            have f24 : 1 ≤ ((1 : Int32) <<< (y6_2 &&& 31)).toInt ∧ ((1 : Int32) <<< (y6_2 &&& 31)).toInt ≤ 8 := shl1 rfl (by omega) 3 (by omega) (by decide)
            refine lv_ior hx hb dX3_strengthBehindTrial_46 ?_
            have f25 : 0 ≤ ((wkd_6 x17.toNatClampNeg) ||| ((1 : Int32) <<< (y6_2 &&& 31))).toInt ∧ ((wkd_6 x17.toNatClampNeg) ||| ((1 : Int32) <<< (y6_2 &&& 31))).toInt ≤ 15 := orB rfl rfl 4 (by omega) (by omega) (by omega) (by omega) (by decide)
            refine lv_topi (fun x26 ex26 => ?_)
            have ix26 : x26.toInt = ((wkd_6 x17.toNatClampNeg) ||| ((1 : Int32) <<< (y6_2 &&& 31))).toInt := by rw [ex26]
            have b27 : vp_in x17 8 := inC rfl (by omega) (by omega)
            have g28 : rg 8 (0) (15) (upd wkd_6 x17.toNatClampNeg x26) := rg_upd r_wkd_6 rfl (by omega) (by omega)
            refine va_iast hx hb hK hP hD hS 4 0 rfl rfl b27 dX3_strengthBehindTrial_47 (fun H locs hP hD hS => ?_)
            obtain ⟨wkd_u29, ewkd_u29⟩ : ∃ f : Nat → Int32, f = upd wkd_6 x17.toNatClampNeg x26 := ⟨_, rfl⟩
            have rwkd_u29 : rg 8 (0) (15) wkd_u29 := by rw [ewkd_u29]; exact g28
            have hP : va_P (dC, dI) vwCl (wPln cI cZ cQ a min tri bes wkd_u29 cos_c5 rst bst top str gho ghs pto cro_c4 pla wal fal tel gai day mar few doo) H := by rw [ewkd_u29]; exact hP
            have hD : va_D A (wPln cI cZ cQ a min tri bes wkd_u29 cos_c5 rst bst top str gho ghs pto cro_c4 pla wal fal tel gai day mar few doo) := by rw [ewkd_u29]; exact hD
            obtain ⟨z30, ez30⟩ : ∃ y : Int32, y = y6_2 + 1 := ⟨_, rfl⟩
            have iz30 : z30.toInt = y6_2.toInt + 1 := by rw [ez30]; exact addC rfl rfl (by omega) (by omega)
            refine lv_iinc (v := z30) (lv' := [(2, .int z30), (3, .int x17), (0, .ref (a 16)), (1, .int n)]) hx hb dX3_strengthBehindTrial_48 hl (k := 3) rfl (by rw [ez30]; rfl) (by decide) rfl (fun ls hl => ?_)
            refine lv_goto (tgt := 6) hx hb dX3_strengthBehindTrial_51 (by decide) ?_
            exact ih6 z30 wkd_u29 _ _ _ rwkd_u29 (by omega) (by omega) (by omega) hP hD hS (lv_sub hl [2, 3, 0] rfl)
          · refine lv_if_ne (tgt := 36) hx hb dX3_strengthBehindTrial_31 (by decide) (fun c9 => absurd (by decide) c9) (fun _ => ?_)
            refine lv_iconst (v := (-1)) hx hb dX3_strengthBehindTrial_34 (by decide) ?_
            exact W.iret (v := (-1)) hx hb hr (fun t ht hW => ⟨⟨(-1), (uS [cro_c4, cos_c5, wkd_6] 0 (fun _ => 0)), rfl, ⟨h2_0, r_wkd_6⟩, by rw [ht]; exact hP, hD⟩, hS.F ht⟩) hS.2.2 dX3_strengthBehindTrial_35
        · refine lv_if_eq (tgt := 48) hx hb dX3_strengthBehindTrial_22 (by decide) (fun _ => ?_) (fun c9 => absurd (by decide) c9)
          obtain ⟨z31, ez31⟩ : ∃ y : Int32, y = y6_2 + 1 := ⟨_, rfl⟩
          have iz31 : z31.toInt = y6_2.toInt + 1 := by rw [ez31]; exact addC rfl rfl (by omega) (by omega)
          refine lv_iinc (v := z31) (lv' := [(2, .int z31), (3, .int x17), (0, .ref (a 16)), (1, .int n)]) hx hb dX3_strengthBehindTrial_48 hl (k := 3) rfl (by rw [ez31]; rfl) (by decide) rfl (fun ls hl => ?_)
          refine lv_goto (tgt := 6) hx hb dX3_strengthBehindTrial_51 (by decide) ?_
          exact ih6 z31 wkd_6 _ _ _ r_wkd_6 (by omega) (by omega) (by omega) hP hD hS (lv_sub hl [2, 3, 0] rfl)
  have kc32 : (0 : Int32).toInt = 0 := rfl
  exact L6 _ 0 wkd_c6 _ _ _ h2_1 (by omega) (by omega) (Nat.lt_succ_self _) hP hD hS (lv_sub hl [1, 2, 0] rfl)
set_option maxHeartbeats 4000000 in
set_option maxRecDepth 100000 in
theorem k_X3_keepIfStronger (l : Launch) (dC : Nat → ClassId) (dI : Nat → Nat → Nat) (cI cZ cQ : ClassId) (a : Nat → Nat) (min : Nat → Int32) (tri : Nat → Int32) (bes : Nat → Int32) (wkd : Nat → Int32) (cos : Nat → Int32) (rst : Nat → Int32) (bst : Int32) (top : Nat → Int32) (str : Nat → Int32) (gho : Nat → Int32) (ghs : Nat → Int32) (pto : Nat → Int32) (cro : Nat → Int32) (pla : Nat → Int32) (wal : Nat → Int32) (fal : Nat → Int32) (tel : Int32) (gai : Int32) (day : Int32) (mar : Nat → Int32) (few : Nat → Int32) (doo : Int32) (sz : Nat) (al : Int32) (r_wkd : rg 8 (0) (15) wkd) (r_top : rg 48 (-1) (23) top) (r_str : rg 48 (0) (100) str) (r_gho : rg 48 (-1) (23) gho) (r_ghs : rg 48 (0) (100) ghs) (r_cro : rg 48 (0) (6) cro) (r_pla : rg 24 (-1) (47) pla) (r_fal : rg 11 (0) (30) fal) (r_gai : 0 ≤ gai.toInt ∧ gai.toInt ≤ 100) (r_day : 0 ≤ day.toInt ∧ day.toInt ≤ 400) (r_mar : rg 24 (0) (255) mar) : KV l yX3_keepIfStronger wsX3_keepIfStronger { frames := 1, cells := 0, slots := 0, locals := 40 } (dC, dI) (TY cI cZ cQ) (wPln cI cZ cQ a min tri bes wkd cos rst bst top str gho ghs pto cro pla wal fal tel gai day mar few doo) [.ref (a 16), .int al] sz 0 0 (fun (u : US) => True) (fun u : US => (wPln cI cZ cQ a min tri (u.1 1) wkd cos rst (u.1 0 0) top str gho ghs pto cro pla wal fal tel gai day mar few doo)) := by
  refine Met.ofW (cc := cX3_keepIfStronger) (maxL := 2) (ret := none) (by decide) rfl ?_
  intro p e s m args below meth c s₁ B hml hv
  obtain ⟨rfl, hsz, hP, hK, hD0, hN⟩ := hv
  have hx := B.exec
  have hb := B.bytes
  have hr := B.returns
  have hts := atoms_spec (ws := wsX3_keepIfStronger) B.pre
  have hown : s.vm.findClass RX3 = some m.cls := findClass_of_methodNamed B.named
  have hlocks := B.notSynchronized
  have lf65 := hts (.fieldLink RX3 65 "PalaceOfRooms$Planner" "bestStrength" "I") (by decide +kernel)
  have inX3 : ∀ w ∈ wsX30, w ∈ wsX3_keepIfStronger := by decide +kernel
  have lf15 := hts (.fieldLink RX3 15 "PalaceOfRooms$Planner" "trial" "[I") (by decide +kernel)
  have lf18 := hts (.fieldLink RX3 18 "PalaceOfRooms$Planner" "best" "[I") (by decide +kernel)
  subst hsz
  have hD := hD0.self (sz := s.heap.size)
  generalize hAe : va_A (wPln cI cZ cQ a min tri bes wkd cos rst bst top str gho ghs pto cro pla wal fal tel gai day mar few doo) s.heap.size = A at hD ⊢
  have hA : ∀ q : Nat, s.heap.size ≤ q → A q := fun q h => by rw [← hAe]; exact Or.inr h
  have hS : va_S A s.heap s.heap [] := va_S.rf
  have hl := lv_entry ([.ref (a 16), .int al]) (n := 2) (Nat.le_of_ble_eq_true rfl)
  rw [lg_entry_eq]
  generalize (lg_sl ([.ref (a 16), .int al]) ++ List.replicate (2 - (lg_sl ([.ref (a 16), .int al])).length) Slot.unset).toArray = ls at hl ⊢
  have hl : lv_has ls 2 [(0, .ref (a 16)), (1, .int al)] := hl
  refine lv_iload_n hx hb dX3_keepIfStronger_0 rfl (lv_at hl 1 rfl) ?_
  refine lv_aload_n hx hb dX3_keepIfStronger_1 rfl (lv_at hl 0 rfl) ?_
  refine va_get (D := (dC, dI)) (ci := 3) (v := .int bst) (C := RX3) (T := TX3) (N := 9) hx hb hts inX3 hown hK hP 0 rfl rfl 8 (by decide) lf65 (fun _ h9 => h9) rfl dX3_keepIfStronger_2 ?_
  refine lv_icmp_le (tgt := 27) hx hb dX3_keepIfStronger_5 (by decide) (fun c1 => ?_) (fun c1 => ?_)
  · have dc1 : al.toInt ≤ bst.toInt := leC rfl rfl c1
    exact W.vret hx hb hr (fun t ht hW => ⟨⟨(uS [(fun _ => bst), bes] 0 (fun _ => 0)), rfl, trivial, by rw [ht]; exact hP, hD⟩, hS.F ht⟩) hS.2.2 dX3_keepIfStronger_27
  · have dc1 : bst.toInt < al.toInt := nleC rfl rfl c1
    refine lv_aload_n hx hb dX3_keepIfStronger_8 rfl (lv_at hl 0 rfl) ?_
    refine lv_iload_n hx hb dX3_keepIfStronger_9 rfl (lv_at hl 1 rfl) ?_
    refine va_put (D := (dC, dI)) (ci := 3) (v := .int al) (ty := .int) (C := RX3) (T := TX3) (N := 9) hx hb hts inX3 tyX3 tyX3_ok nmX3 hown hK hP hD hS 0 rfl rfl 8 (by decide) lf65 (fun _ h9 => h9) rfl (by decide +kernel) rfl rfl (Nat.le_of_ble_eq_true rfl) dX3_keepIfStronger_10 (fun H locs hP hD hS => ?_)
    have hP : va_P (dC, dI) vwCl (wPln cI cZ cQ a min tri bes wkd cos rst al top str gho ghs pto cro pla wal fal tel gai day mar few doo) H := hP
    have hD : va_D A (wPln cI cZ cQ a min tri bes wkd cos rst al top str gho ghs pto cro pla wal fal tel gai day mar few doo) := hD
    refine lv_aload_n hx hb dX3_keepIfStronger_13 rfl (lv_at hl 0 rfl) ?_
    refine va_get (D := (dC, dI)) (ci := 3) (v := .ref (a 18)) (C := RX3) (T := TX3) (N := 9) hx hb hts inX3 hown hK hP 0 rfl rfl 3 (by decide) lf15 (fun _ h9 => h9) rfl dX3_keepIfStronger_14 ?_
    refine lv_iconst (v := 0) hx hb dX3_keepIfStronger_17 (by decide) ?_
    refine lv_aload_n hx hb dX3_keepIfStronger_18 rfl (lv_at hl 0 rfl) ?_
    refine va_get (D := (dC, dI)) (ci := 3) (v := .ref (a 19)) (C := RX3) (T := TX3) (N := 9) hx hb hts inX3 hown hK hP 0 rfl rfl 4 (by decide) lf18 (fun _ h9 => h9) rfl dX3_keepIfStronger_19 ?_
    refine lv_iconst (v := 0) hx hb dX3_keepIfStronger_22 (by decide) ?_
    refine lv_iconst (v := 4) hx hb dX3_keepIfStronger_23 (by decide) ?_
    refine va_copyi (ty := .int) (n := 4) hx hb (by rw [hml]; exact hl.1.symm) hown (hts (.methodLink RX3 89 arraycopyName) (by decide +kernel)) (hts (.native arraycopyName) (by decide +kernel)) (hts (.static arraycopyName) (by decide +kernel)) (hts (.initialized "java/lang/System") (by decide +kernel)) hK hP hD hS 2 3 0 0 rfl rfl rfl rfl rfl (by decide) (by decide) (by decide) (by decide) (by decide) (fun _ _ => rfl) (Nat.le_of_ble_eq_true rfl) (Nat.le_of_ble_eq_true rfl) dX3_keepIfStronger_24 (fun H locs hP hD hS => ?_)
    obtain ⟨bes_u2, ebes_u2⟩ : ∃ f : Nat → Int32, f = va_cpy tri bes 0 0 4 := ⟨_, rfl⟩
    have hP : va_P (dC, dI) vwCl (wPln cI cZ cQ a min tri bes_u2 wkd cos rst al top str gho ghs pto cro pla wal fal tel gai day mar few doo) H := by rw [ebes_u2]; exact hP
    have hD : va_D A (wPln cI cZ cQ a min tri bes_u2 wkd cos rst al top str gho ghs pto cro pla wal fal tel gai day mar few doo) := by rw [ebes_u2]; exact hD
    exact W.vret hx hb hr (fun t ht hW => ⟨⟨(uS [(fun _ => al), bes_u2] 0 (fun _ => 0)), rfl, trivial, by rw [ht]; exact hP, hD⟩, hS.F ht⟩) hS.2.2 dX3_keepIfStronger_27
set_option maxHeartbeats 4000000 in
set_option maxRecDepth 100000 in
theorem k_X3_seek_0 (l : Launch) (dC : Nat → ClassId) (dI : Nat → Nat → Nat) (cI cZ cQ : ClassId) (a : Nat → Nat) (min : Nat → Int32) (tri : Nat → Int32) (bes : Nat → Int32) (wkd : Nat → Int32) (cos : Nat → Int32) (rst : Nat → Int32) (bst : Int32) (top : Nat → Int32) (str : Nat → Int32) (gho : Nat → Int32) (ghs : Nat → Int32) (pto : Nat → Int32) (cro : Nat → Int32) (pla : Nat → Int32) (wal : Nat → Int32) (fal : Nat → Int32) (tel : Int32) (gai : Int32) (day : Int32) (mar : Nat → Int32) (few : Nat → Int32) (doo : Int32) (sz : Nat) (i : Int32) (n : Int32) (al : Int32) (r_wkd : rg 8 (0) (15) wkd) (r_top : rg 48 (-1) (23) top) (r_str : rg 48 (0) (100) str) (r_gho : rg 48 (-1) (23) gho) (r_ghs : rg 48 (0) (100) ghs) (r_cro : rg 48 (0) (6) cro) (r_pla : rg 24 (-1) (47) pla) (r_fal : rg 11 (0) (30) fal) (r_gai : 0 ≤ gai.toInt ∧ gai.toInt ≤ 100) (r_day : 0 ≤ day.toInt ∧ day.toInt ≤ 400) (r_mar : rg 24 (0) (255) mar) (q0 : 4 ≤ i.toInt) (q1 : i.toInt ≤ 4) (q2 : 1 ≤ n.toInt) (q3 : n.toInt ≤ 4) : KV l yX3_seek wsX3_seek { frames := 2, cells := 0, slots := 0, locals := 61 } (dC, dI) (TY cI cZ cQ) (wPln cI cZ cQ a min tri bes wkd cos rst bst top str gho ghs pto cro pla wal fal tel gai day mar few doo) [.ref (a 16), .int i, .int n, .int al] sz 0 0 (fun (u : US) => (rg 8 (0) (15) (u.1 2))) (fun u : US => (wPln cI cZ cQ a min (u.1 0) (u.1 1) (u.1 2) cos rst (u.1 3 0) top str gho ghs pto cro pla wal fal tel gai day mar few doo)) := by
  refine Met.ofW (cc := cX3_seek) (maxL := 8) (ret := none) (by decide) rfl ?_
  intro p e s m args below meth c s₁ B hml hv
  obtain ⟨rfl, hsz, hP, hK, hD0, hN⟩ := hv
  have hx := B.exec
  have hb := B.bytes
  have hr := B.returns
  have hts := atoms_spec (ws := wsX3_seek) B.pre
  have hown : s.vm.findClass RX3 = some m.cls := findClass_of_methodNamed B.named
  have hlocks := B.notSynchronized
  subst hsz
  have hD := hD0.self (sz := s.heap.size)
  generalize hAe : va_A (wPln cI cZ cQ a min tri bes wkd cos rst bst top str gho ghs pto cro pla wal fal tel gai day mar few doo) s.heap.size = A at hD ⊢
  have hA : ∀ q : Nat, s.heap.size ≤ q → A q := fun q h => by rw [← hAe]; exact Or.inr h
  have hS : va_S A s.heap s.heap [] := va_S.rf
  have hl := lv_entry ([.ref (a 16), .int i, .int n, .int al]) (n := 8) (Nat.le_of_ble_eq_true rfl)
  rw [lg_entry_eq]
  generalize (lg_sl ([.ref (a 16), .int i, .int n, .int al]) ++ List.replicate (8 - (lg_sl ([.ref (a 16), .int i, .int n, .int al])).length) Slot.unset).toArray = ls at hl ⊢
  have hl : lv_has ls 8 [(0, .ref (a 16)), (1, .int i), (2, .int n), (3, .int al)] := hl
  refine lv_iload_n hx hb dX3_seek_0 rfl (lv_at hl 1 rfl) ?_
  refine lv_iload_n hx hb dX3_seek_1 rfl (lv_at hl 2 rfl) ?_
  refine lv_icmp_ge (tgt := 10) hx hb dX3_seek_2 (by decide) (fun c1 => ?_) (fun c1 => ?_)
  · have dc1 : n.toInt ≤ i.toInt := leC rfl rfl c1
    refine lv_aload_n hx hb dX3_seek_10 rfl (lv_at hl 0 rfl) ?_
    refine lv_iload_n hx hb dX3_seek_11 rfl (lv_at hl 3 rfl) ?_
    refine wvV (As := [.int al]) (rest := []) (wr := []) (w2 := (fun u : US => (wPln cI cZ cQ a min tri (u.1 1) wkd cos rst (u.1 0 0) top str gho ghs pto cro pla wal fal tel gai day mar few doo))) ⟨hx, hb, hml, hown, hts⟩ (k_X3_keepIfStronger l dC dI cI cZ cQ a min tri bes wkd cos rst bst top str gho ghs pto cro pla wal fal tel gai day mar few doo _ al r_wkd r_top r_str r_gho r_ghs r_cro r_pla r_fal r_gai r_day r_mar) (cwV 1 hts gX3_seek_X3_keepIfStronger rfl rfl rfl (by decide +kernel) ⟨Nat.le_of_ble_eq_true rfl, Nat.le_of_ble_eq_true rfl⟩) hP hD hS hA hK hN [0, 1, 2, 3, 4, 5, 6, 7, 8, 9, 10, 11, 12, 13, 14, 15, 16, 17, 18, 19, 20] [] [0, 1, 2, 3, 4, 5, 6, 7, 8, 9, 10, 11, 12, 13, 14, 15, 16, 17, 18, 19, 20] rfl rfl (by decide) (by decide) (by decide) (fun _ => rfl) (by decide) 0 3 rfl rfl rfl hl.1 rfl (Nat.le_of_ble_eq_true rfl) dX3_seek_12 ⟨Nat.le_of_ble_eq_true rfl, Nat.le_of_ble_eq_true rfl⟩ (fun u4 H locs h3 hP hD hS => ?_)
    obtain ⟨bst_c5, ebst_c5⟩ : ∃ f : Int32, f = (u4.1 0 0) := ⟨_, rfl⟩
    obtain ⟨bes_c6, ebes_c6⟩ : ∃ f : Nat → Int32, f = (u4.1 1) := ⟨_, rfl⟩
    have hP : va_P (dC, dI) vwCl (wPln cI cZ cQ a min tri bes_c6 wkd cos rst bst_c5 top str gho ghs pto cro pla wal fal tel gai day mar few doo) H := by rw [ebst_c5, ebes_c6]; exact hP
    have hD : va_D A (wPln cI cZ cQ a min tri bes_c6 wkd cos rst bst_c5 top str gho ghs pto cro pla wal fal tel gai day mar few doo) := by rw [ebst_c5, ebes_c6]; exact hD
    have h3 : True := by (try rw [ebst_c5]); (try rw [ebes_c6]); exact h3
    exact W.vret hx hb hr (fun t ht hW => ⟨⟨(uS [tri, bes_c6, wkd, (fun _ => bst_c5)] 0 (fun _ => 0)), rfl, r_wkd, by rw [ht]; exact hP, hD⟩, hS.F ht⟩) hS.2.2 dX3_seek_15
  · have dc1 : i.toInt < n.toInt := nleC rfl rfl c1
    exfalso
    omega
set_option maxHeartbeats 4000000 in
set_option maxRecDepth 100000 in
theorem k_X3_seek_1 (l : Launch) (dC : Nat → ClassId) (dI : Nat → Nat → Nat) (cI cZ cQ : ClassId) (a : Nat → Nat) (min : Nat → Int32) (tri : Nat → Int32) (bes : Nat → Int32) (wkd : Nat → Int32) (cos : Nat → Int32) (rst : Nat → Int32) (bst : Int32) (top : Nat → Int32) (str : Nat → Int32) (gho : Nat → Int32) (ghs : Nat → Int32) (pto : Nat → Int32) (cro : Nat → Int32) (pla : Nat → Int32) (wal : Nat → Int32) (fal : Nat → Int32) (tel : Int32) (gai : Int32) (day : Int32) (mar : Nat → Int32) (few : Nat → Int32) (doo : Int32) (sz : Nat) (i : Int32) (n : Int32) (al : Int32) (r_wkd : rg 8 (0) (15) wkd) (r_top : rg 48 (-1) (23) top) (r_str : rg 48 (0) (100) str) (r_gho : rg 48 (-1) (23) gho) (r_ghs : rg 48 (0) (100) ghs) (r_cro : rg 48 (0) (6) cro) (r_pla : rg 24 (-1) (47) pla) (r_fal : rg 11 (0) (30) fal) (r_gai : 0 ≤ gai.toInt ∧ gai.toInt ≤ 100) (r_day : 0 ≤ day.toInt ∧ day.toInt ≤ 400) (r_mar : rg 24 (0) (255) mar) (q0 : 3 ≤ i.toInt) (q1 : i.toInt ≤ 4) (q2 : 1 ≤ n.toInt) (q3 : n.toInt ≤ 4) : KV l yX3_seek wsX3_seek { frames := 3, cells := 0, slots := 0, locals := 88 } (dC, dI) (TY cI cZ cQ) (wPln cI cZ cQ a min tri bes wkd cos rst bst top str gho ghs pto cro pla wal fal tel gai day mar few doo) [.ref (a 16), .int i, .int n, .int al] sz 0 0 (fun (u : US) => (rg 8 (0) (15) (u.1 2))) (fun u : US => (wPln cI cZ cQ a min (u.1 0) (u.1 1) (u.1 2) cos rst (u.1 3 0) top str gho ghs pto cro pla wal fal tel gai day mar few doo)) := by
  refine Met.ofW (cc := cX3_seek) (maxL := 8) (ret := none) (by decide) rfl ?_
  intro p e s m args below meth c s₁ B hml hv
  obtain ⟨rfl, hsz, hP, hK, hD0, hN⟩ := hv
  have hx := B.exec
  have hb := B.bytes
  have hr := B.returns
  have hts := atoms_spec (ws := wsX3_seek) B.pre
  have hown : s.vm.findClass RX3 = some m.cls := findClass_of_methodNamed B.named
  have hlocks := B.notSynchronized
  have lf15 := hts (.fieldLink RX3 15 "PalaceOfRooms$Planner" "trial" "[I") (by decide +kernel)
  have inX3 : ∀ w ∈ wsX30, w ∈ wsX3_seek := by decide +kernel
  have lf21 := hts (.fieldLink RX3 21 "PalaceOfRooms$Planner" "walkedDays" "[I") (by decide +kernel)
  have lf27 := hts (.fieldLink RX3 27 "PalaceOfRooms$Planner" "roomStrength" "[I") (by decide +kernel)
  subst hsz
  have hD := hD0.self (sz := s.heap.size)
  generalize hAe : va_A (wPln cI cZ cQ a min tri bes wkd cos rst bst top str gho ghs pto cro pla wal fal tel gai day mar few doo) s.heap.size = A at hD ⊢
  have hA : ∀ q : Nat, s.heap.size ≤ q → A q := fun q h => by rw [← hAe]; exact Or.inr h
  have hS : va_S A s.heap s.heap [] := va_S.rf
  have hl := lv_entry ([.ref (a 16), .int i, .int n, .int al]) (n := 8) (Nat.le_of_ble_eq_true rfl)
  rw [lg_entry_eq]
  generalize (lg_sl ([.ref (a 16), .int i, .int n, .int al]) ++ List.replicate (8 - (lg_sl ([.ref (a 16), .int i, .int n, .int al])).length) Slot.unset).toArray = ls at hl ⊢
  have hl : lv_has ls 8 [(0, .ref (a 16)), (1, .int i), (2, .int n), (3, .int al)] := hl
  refine lv_iload_n hx hb dX3_seek_0 rfl (lv_at hl 1 rfl) ?_
  refine lv_iload_n hx hb dX3_seek_1 rfl (lv_at hl 2 rfl) ?_
  refine lv_icmp_ge (tgt := 10) hx hb dX3_seek_2 (by decide) (fun c1 => ?_) (fun c1 => ?_)
  · have dc1 : n.toInt ≤ i.toInt := leC rfl rfl c1
    refine lv_aload_n hx hb dX3_seek_10 rfl (lv_at hl 0 rfl) ?_
    refine lv_iload_n hx hb dX3_seek_11 rfl (lv_at hl 3 rfl) ?_
    refine wvV (As := [.int al]) (rest := []) (wr := []) (w2 := (fun u : US => (wPln cI cZ cQ a min tri (u.1 1) wkd cos rst (u.1 0 0) top str gho ghs pto cro pla wal fal tel gai day mar few doo))) ⟨hx, hb, hml, hown, hts⟩ (k_X3_keepIfStronger l dC dI cI cZ cQ a min tri bes wkd cos rst bst top str gho ghs pto cro pla wal fal tel gai day mar few doo _ al r_wkd r_top r_str r_gho r_ghs r_cro r_pla r_fal r_gai r_day r_mar) (cwV 1 hts gX3_seek_X3_keepIfStronger rfl rfl rfl (by decide +kernel) ⟨Nat.le_of_ble_eq_true rfl, Nat.le_of_ble_eq_true rfl⟩) hP hD hS hA hK hN [0, 1, 2, 3, 4, 5, 6, 7, 8, 9, 10, 11, 12, 13, 14, 15, 16, 17, 18, 19, 20] [] [0, 1, 2, 3, 4, 5, 6, 7, 8, 9, 10, 11, 12, 13, 14, 15, 16, 17, 18, 19, 20] rfl rfl (by decide) (by decide) (by decide) (fun _ => rfl) (by decide) 0 3 rfl rfl rfl hl.1 rfl (Nat.le_of_ble_eq_true rfl) dX3_seek_12 ⟨Nat.le_of_ble_eq_true rfl, Nat.le_of_ble_eq_true rfl⟩ (fun u4 H locs h3 hP hD hS => ?_)
    obtain ⟨bst_c5, ebst_c5⟩ : ∃ f : Int32, f = (u4.1 0 0) := ⟨_, rfl⟩
    obtain ⟨bes_c6, ebes_c6⟩ : ∃ f : Nat → Int32, f = (u4.1 1) := ⟨_, rfl⟩
    have hP : va_P (dC, dI) vwCl (wPln cI cZ cQ a min tri bes_c6 wkd cos rst bst_c5 top str gho ghs pto cro pla wal fal tel gai day mar few doo) H := by rw [ebst_c5, ebes_c6]; exact hP
    have hD : va_D A (wPln cI cZ cQ a min tri bes_c6 wkd cos rst bst_c5 top str gho ghs pto cro pla wal fal tel gai day mar few doo) := by rw [ebst_c5, ebes_c6]; exact hD
    have h3 : True := by (try rw [ebst_c5]); (try rw [ebes_c6]); exact h3
    exact W.vret hx hb hr (fun t ht hW => ⟨⟨(uS [tri, bes_c6, wkd, (fun _ => bst_c5)] 0 (fun _ => 0)), rfl, r_wkd, by rw [ht]; exact hP, hD⟩, hS.F ht⟩) hS.2.2 dX3_seek_15
  · have dc1 : i.toInt < n.toInt := nleC rfl rfl c1
    refine lv_iload_n hx hb dX3_seek_5 rfl (lv_at hl 1 rfl) ?_
    refine lv_iconst (v := 4) hx hb dX3_seek_6 (by decide) ?_
    refine lv_icmp_lt (tgt := 16) hx hb dX3_seek_7 (by decide) (fun c7 => ?_) (fun c7 => ?_)
    · have dc7 : i.toInt < 4 := ltC rfl (show (4 : Int32).toInt = 4 from rfl) c7
      refine lv_iconst (v := 0) hx hb dX3_seek_16 (by decide) ?_
      refine lv_istore (lv' := [(4, .int 0), (0, .ref (a 16)), (1, .int i), (2, .int n), (3, .int al)]) hx hb dX3_seek_17 hl (by decide) rfl (fun ls hl => ?_)
      have L19 : ∀ (nn : Nat) (y19_4 : Int32) (tri_19 : Nat → Int32) (bes_19 : Nat → Int32) (wkd_19 : Nat → Int32) (bst_19 : Int32) (H : Heap) (locs : List Loc) (ls : Array Slot), (rg 8 (0) (15) wkd_19) → (0 ≤ (y19_4.toInt)) → ((y19_4.toInt) ≤ 8) → (8 - (y19_4.toInt)).toNat < nn → va_P (dC, dI) vwCl (wPln cI cZ cQ a min tri_19 bes_19 wkd_19 cos rst bst_19 top str gho ghs pto cro pla wal fal tel gai day mar few doo) H → va_D A (wPln cI cZ cQ a min tri_19 bes_19 wkd_19 cos rst bst_19 top str gho ghs pto cro pla wal fal tel gai day mar few doo) → va_S A s.heap H locs → lv_has ls 8 [(0, .ref (a 16)), (1, .int i), (2, .int n), (3, .int al), (4, .int y19_4)] → W p l e (headSpec wsX3_seek { frames := 3, cells := 0, slots := 0, locals := 88 }).room s m ([.ref (a 16), .int i, .int n, .int al] : List Value).toArray below meth c H locs 0 0 (MQ below (va_Qv (fun (u : US) => (rg 8 (0) (15) (u.1 2))) (Bw (dC, dI) A (fun u : US => (wPln cI cZ cQ a min (u.1 0) (u.1 1) (u.1 2) cos rst (u.1 3 0) top str gho ghs pto cro pla wal fal tel gai day mar few doo))) A) ([.ref (a 16), .int i, .int n, .int al] : List Value).toArray s 0 0 A) (F0 m 19 ls []) := by
        intro nn
        induction nn with
        | zero =>
          intro y19_4 tri_19 bes_19 wkd_19 bst_19 H locs ls r_wkd_19 i19_0 i19_1 hm
          exact absurd hm (Nat.not_lt_zero _)
        | succ nn ih19 =>
          intro y19_4 tri_19 bes_19 wkd_19 bst_19 H locs ls r_wkd_19 i19_0 i19_1 hm hP hD hS hl
          refine lv_iload hx hb dX3_seek_19 (lv_at hl 4 rfl) ?_
          refine lv_bipush (v := 8) hx hb dX3_seek_21 (by decide) ?_
          refine lv_icmp_ge (tgt := 126) hx hb dX3_seek_23 (by decide) (fun c8 => ?_) (fun c8 => ?_)
          · have dc8 : 8 ≤ y19_4.toInt := leC (show (8 : Int32).toInt = 8 from rfl) rfl c8
            refine lv_aload_n hx hb dX3_seek_126 rfl (lv_at hl 0 rfl) ?_
            refine va_get (D := (dC, dI)) (ci := 3) (v := .ref (a 18)) (C := RX3) (T := TX3) (N := 9) hx hb hts inX3 hown hK hP 0 rfl rfl 3 (by decide) lf15 (fun _ h9 => h9) rfl dX3_seek_127 ?_
            refine lv_iload_n hx hb dX3_seek_130 rfl (lv_at hl 1 rfl) ?_
            refine lv_bipush (v := 8) hx hb dX3_seek_131 (by decide) ?_
            have b9 : vp_in i 4 := inC rfl (by omega) (by omega)
            refine va_iast hx hb hK hP hD hS 2 0 rfl rfl b9 dX3_seek_133 (fun H locs hP hD hS => ?_)
            obtain ⟨tri_u10, etri_u10⟩ : ∃ f : Nat → Int32, f = upd tri_19 i.toNatClampNeg 8 := ⟨_, rfl⟩
            have hP : va_P (dC, dI) vwCl (wPln cI cZ cQ a min tri_u10 bes_19 wkd_19 cos rst bst_19 top str gho ghs pto cro pla wal fal tel gai day mar few doo) H := by rw [etri_u10]; exact hP
            have hD : va_D A (wPln cI cZ cQ a min tri_u10 bes_19 wkd_19 cos rst bst_19 top str gho ghs pto cro pla wal fal tel gai day mar few doo) := by rw [etri_u10]; exact hD
            refine lv_aload_n hx hb dX3_seek_134 rfl (lv_at hl 0 rfl) ?_
            refine lv_iload_n hx hb dX3_seek_135 rfl (lv_at hl 1 rfl) ?_
            refine lv_iconst (v := 1) hx hb dX3_seek_136 (by decide) ?_
            refine lv_iadd hx hb dX3_seek_137 ?_
            have f11 : (i + 1).toInt = (i.toInt) + (1) := addC rfl (show (1 : Int32).toInt = 1 from rfl) (by omega) (by omega)
            refine lv_iload_n hx hb dX3_seek_138 rfl (lv_at hl 2 rfl) ?_
            refine lv_iload_n hx hb dX3_seek_139 rfl (lv_at hl 3 rfl) ?_
            refine wvV (As := [.int (i + 1), .int n, .int al]) (rest := []) (wr := []) (w2 := (fun u : US => (wPln cI cZ cQ a min (u.1 0) (u.1 1) (u.1 2) cos rst (u.1 3 0) top str gho ghs pto cro pla wal fal tel gai day mar few doo))) ⟨hx, hb, hml, hown, hts⟩ (k_X3_seek_0 l dC dI cI cZ cQ a min tri_u10 bes_19 wkd_19 cos rst bst_19 top str gho ghs pto cro pla wal fal tel gai day mar few doo _ (i + 1) n al r_wkd_19 r_top r_str r_gho r_ghs r_cro r_pla r_fal r_gai r_day r_mar (by omega) (by omega) (by omega) (by omega)) (cwV 3 hts gX3_seek_X3_seek rfl rfl rfl (by decide +kernel) ⟨Nat.le_of_ble_eq_true rfl, Nat.le_of_ble_eq_true rfl⟩) hP hD hS hA hK hN [0, 1, 2, 3, 4, 5, 6, 7, 8, 9, 10, 11, 12, 13, 14, 15, 16, 17, 18, 19, 20] [] [0, 1, 2, 3, 4, 5, 6, 7, 8, 9, 10, 11, 12, 13, 14, 15, 16, 17, 18, 19, 20] rfl rfl (by decide) (by decide) (by decide) (fun _ => rfl) (by decide) 0 3 rfl rfl rfl hl.1 rfl (Nat.le_of_ble_eq_true rfl) dX3_seek_140 ⟨Nat.le_of_ble_eq_true rfl, Nat.le_of_ble_eq_true rfl⟩ (fun u14 H locs h13 hP hD hS => ?_)
            obtain ⟨tri_c15, etri_c15⟩ : ∃ f : Nat → Int32, f = (u14.1 0) := ⟨_, rfl⟩
            obtain ⟨bes_c16, ebes_c16⟩ : ∃ f : Nat → Int32, f = (u14.1 1) := ⟨_, rfl⟩
            obtain ⟨wkd_c17, ewkd_c17⟩ : ∃ f : Nat → Int32, f = (u14.1 2) := ⟨_, rfl⟩
            obtain ⟨bst_c18, ebst_c18⟩ : ∃ f : Int32, f = (u14.1 3 0) := ⟨_, rfl⟩
            have hP : va_P (dC, dI) vwCl (wPln cI cZ cQ a min tri_c15 bes_c16 wkd_c17 cos rst bst_c18 top str gho ghs pto cro pla wal fal tel gai day mar few doo) H := by rw [etri_c15, ebes_c16, ewkd_c17, ebst_c18]; exact hP
            have hD : va_D A (wPln cI cZ cQ a min tri_c15 bes_c16 wkd_c17 cos rst bst_c18 top str gho ghs pto cro pla wal fal tel gai day mar few doo) := by rw [etri_c15, ebes_c16, ewkd_c17, ebst_c18]; exact hD
            have h13 : (rg 8 (0) (15) wkd_c17) := by (try rw [etri_c15]); (try rw [ebes_c16]); (try rw [ewkd_c17]); (try rw [ebst_c18]); exact h13
            have h13_0 := h13
            exact W.vret hx hb hr (fun t ht hW => ⟨⟨(uS [tri_c15, bes_c16, wkd_c17, (fun _ => bst_c18)] 0 (fun _ => 0)), rfl, h13_0, by rw [ht]; exact hP, hD⟩, hS.F ht⟩) hS.2.2 dX3_seek_143
          · have dc8 : y19_4.toInt < 8 := nleC (show (8 : Int32).toInt = 8 from rfl) rfl c8
            refine lv_aload_n hx hb dX3_seek_26 rfl (lv_at hl 0 rfl) ?_
            refine lv_iload hx hb dX3_seek_27 (lv_at hl 4 rfl) ?_
            refine lv_iload_n hx hb dX3_seek_29 rfl (lv_at hl 1 rfl) ?_
            refine rdV (As := [.int y19_4, .int i]) (rest := []) ⟨hx, hb, hml, hown, hts⟩ (k_X3_walkable l dC dI cI cZ cQ a min tri_19 bes_19 wkd_19 cos rst bst_19 top str gho ghs pto cro pla wal fal tel gai day mar few doo y19_4 i r_wkd_19 r_top r_str r_gho r_ghs r_cro r_pla r_fal r_gai r_day r_mar (by omega) (by omega) (by omega) (by omega)) (cwV 2 hts gX3_seek_X3_walkable rfl rfl rfl (by decide +kernel) ⟨Nat.le_of_ble_eq_true rfl, Nat.le_of_ble_eq_true rfl⟩) hP hK hN [0, 1, 2, 3, 4, 5, 6, 7, 8, 9, 10, 11, 12, 13, 14, 15, 16, 17, 18, 19, 20] rfl 0 3 rfl rfl rfl hl.1 rfl (Nat.le_of_ble_eq_true rfl) dX3_seek_30 ⟨Nat.le_of_ble_eq_true rfl, Nat.le_of_ble_eq_true rfl⟩ (fun r19 h20 => ?_)
            have h20 : ((((r19 = 1)) ∨ ((r19 = 0)))) := h20
            rcases h20 with (rfl | rfl)
            · refine lv_if_eq (tgt := 120) hx hb dX3_seek_33 (by decide) (fun c9 => absurd c9 (by decide)) (fun _ => ?_)
              refine lv_aload_n hx hb dX3_seek_36 rfl (lv_at hl 0 rfl) ?_
              refine va_get (D := (dC, dI)) (ci := 3) (v := .ref (a 20)) (C := RX3) (T := TX3) (N := 9) hx hb hts inX3 hown hK hP 0 rfl rfl 5 (by decide) lf21 (fun _ h9 => h9) rfl dX3_seek_37 ?_
              refine lv_iload hx hb dX3_seek_40 (lv_at hl 4 rfl) ?_
              have b21 : vp_in y19_4 8 := inC rfl (by omega) (by omega)
              refine va_iald hx hb hK hP 4 0 rfl rfl b21 dX3_seek_42 ?_
              have g22 : 0 ≤ (wkd_19 y19_4.toNatClampNeg).toInt ∧ (wkd_19 y19_4.toNatClampNeg).toInt ≤ 15 := rg_at r_wkd_19 b21
              refine lv_topi (fun x23 ex23 => ?_)
              have ix23 : x23.toInt = (wkd_19 y19_4.toNatClampNeg).toInt := by rw [ex23]
              refine lv_istore (lv' := [(5, .int x23), (0, .ref (a 16)), (1, .int i), (2, .int n), (3, .int al), (4, .int y19_4)]) hx hb dX3_seek_43 hl (by decide) rfl (fun ls hl => ?_)
              refine lv_iload hx hb dX3_seek_45 (lv_at hl 0 rfl) ?_
              refine lv_iconst (v := 1) hx hb dX3_seek_47 (by decide) ?_
              refine lv_iload_n hx hb dX3_seek_48 rfl (lv_at hl 2 rfl) ?_
              refine lv_ishl hx hb dX3_seek_49 ?_
              have f24 : 1 ≤ ((1 : Int32) <<< (i &&& 31)).toInt ∧ ((1 : Int32) <<< (i &&& 31)).toInt ≤ 8 := shl1 rfl (by omega) 3 (by omega) (by decide)
              refine lv_ior hx hb dX3_seek_50 ?_
              have f25 : 0 ≤ (x23 ||| ((1 : Int32) <<< (i &&& 31))).toInt ∧ (x23 ||| ((1 : Int32) <<< (i &&& 31))).toInt ≤ 15 := orB rfl rfl 4 (by omega) (by omega) (by omega) (by omega) (by decide)
              refine lv_topi (fun x26 ex26 => ?_)
              have ix26 : x26.toInt = (x23 ||| ((1 : Int32) <<< (i &&& 31))).toInt := by rw [ex26]
              refine lv_istore (lv' := [(6, .int x26), (5, .int x23), (0, .ref (a 16)), (1, .int i), (2, .int n), (3, .int al), (4, .int y19_4)]) hx hb dX3_seek_51 hl (by decide) rfl (fun ls hl => ?_)
              refine lv_aload_n hx hb dX3_seek_53 rfl (lv_at hl 2 rfl) ?_
              refine va_get (D := (dC, dI)) (ci := 3) (v := .ref (a 22)) (C := RX3) (T := TX3) (N := 9) hx hb hts inX3 hown hK hP 0 rfl rfl 7 (by decide) lf27 (fun _ h9 => h9) rfl dX3_seek_54 ?_
              refine lv_iload hx hb dX3_seek_57 (lv_at hl 6 rfl) ?_
              refine lv_bipush (v := 16) hx hb dX3_seek_59 (by decide) ?_
              refine lv_imul hx hb dX3_seek_61 ?_
              have f27 : (y19_4 * 16).toInt = (y19_4.toInt) * (16) := mulC rfl (show (16 : Int32).toInt = 16 from rfl) (by omega) (by omega)
              refine lv_iload hx hb dX3_seek_62 (lv_at hl 0 rfl) ?_
              refine lv_iadd hx hb dX3_seek_64 ?_
              have f28 : ((y19_4 * 16) + x26).toInt = ((y19_4.toInt) * (16)) + (x26.toInt) := addC f27 rfl (by omega) (by omega)
              have b29 : vp_in ((y19_4 * 16) + x26) 128 := inC f28 (by omega) (by omega)
              refine va_iald hx hb hK hP 6 0 rfl rfl b29 dX3_seek_65 ?_
              refine lv_aload_n hx hb dX3_seek_66 rfl (lv_at hl 2 rfl) ?_
              refine va_get (D := (dC, dI)) (ci := 3) (v := .ref (a 22)) (C := RX3) (T := TX3) (N := 9) hx hb hts inX3 hown hK hP 0 rfl rfl 7 (by decide) lf27 (fun _ h9 => h9) rfl dX3_seek_67 ?_
              refine lv_iload hx hb dX3_seek_70 (lv_at hl 6 rfl) ?_
              refine lv_bipush (v := 16) hx hb dX3_seek_72 (by decide) ?_
              refine lv_imul hx hb dX3_seek_74 ?_
              have f30 : (y19_4 * 16).toInt = (y19_4.toInt) * (16) := mulC rfl (show (16 : Int32).toInt = 16 from rfl) (by omega) (by omega)
              refine lv_iload hx hb dX3_seek_75 (lv_at hl 1 rfl) ?_
              refine lv_iadd hx hb dX3_seek_77 ?_
              have f31 : ((y19_4 * 16) + x23).toInt = ((y19_4.toInt) * (16)) + (x23.toInt) := addC f30 rfl (by omega) (by omega)
              have b32 : vp_in ((y19_4 * 16) + x23) 128 := inC f31 (by omega) (by omega)
              refine va_iald hx hb hK hP 6 0 rfl rfl b32 dX3_seek_78 ?_
              refine lv_isub hx hb dX3_seek_79 ?_
              refine lv_topi (fun x33 ex33 => ?_)
              have ix33 : x33.toInt = ((rst ((y19_4 * 16) + x26).toNatClampNeg) - (rst ((y19_4 * 16) + x23).toNatClampNeg)).toInt := by rw [ex33]
              refine lv_istore (lv' := [(7, .int x33), (6, .int x26), (5, .int x23), (0, .ref (a 16)), (1, .int i), (2, .int n), (3, .int al), (4, .int y19_4)]) hx hb dX3_seek_80 hl (by decide) rfl (fun ls hl => ?_)
              refine lv_aload_n hx hb dX3_seek_82 rfl (lv_at hl 3 rfl) ?_
              refine va_get (D := (dC, dI)) (ci := 3) (v := .ref (a 18)) (C := RX3) (T := TX3) (N := 9) hx hb hts inX3 hown hK hP 0 rfl rfl 3 (by decide) lf15 (fun _ h9 => h9) rfl dX3_seek_83 ?_
              refine lv_iload_n hx hb dX3_seek_86 rfl (lv_at hl 4 rfl) ?_
              refine lv_iload hx hb dX3_seek_87 (lv_at hl 7 rfl) ?_
              have b34 : vp_in i 4 := inC rfl (by omega) (by omega)
              refine va_iast hx hb hK hP hD hS 2 0 rfl rfl b34 dX3_seek_89 (fun H locs hP hD hS => ?_)
              obtain ⟨tri_u35, etri_u35⟩ : ∃ f : Nat → Int32, f = upd tri_19 i.toNatClampNeg y19_4 := ⟨_, rfl⟩
              have hP : va_P (dC, dI) vwCl (wPln cI cZ cQ a min tri_u35 bes_19 wkd_19 cos rst bst_19 top str gho ghs pto cro pla wal fal tel gai day mar few doo) H := by rw [etri_u35]; exact hP
              have hD : va_D A (wPln cI cZ cQ a min tri_u35 bes_19 wkd_19 cos rst bst_19 top str gho ghs pto cro pla wal fal tel gai day mar few doo) := by rw [etri_u35]; exact hD
              refine lv_aload_n hx hb dX3_seek_90 rfl (lv_at hl 3 rfl) ?_
              refine va_get (D := (dC, dI)) (ci := 3) (v := .ref (a 20)) (C := RX3) (T := TX3) (N := 9) hx hb hts inX3 hown hK hP 0 rfl rfl 5 (by decide) lf21 (fun _ h9 => h9) rfl dX3_seek_91 ?_
              refine lv_iload hx hb dX3_seek_94 (lv_at hl 7 rfl) ?_
              refine lv_iload hx hb dX3_seek_96 (lv_at hl 1 rfl) ?_
              have b36 : vp_in y19_4 8 := inC rfl (by omega) (by omega)
              have g37 : rg 8 (0) (15) (upd wkd_19 y19_4.toNatClampNeg x26) := rg_upd r_wkd_19 rfl (by omega) (by omega)
              refine va_iast hx hb hK hP hD hS 4 0 rfl rfl b36 dX3_seek_98 (fun H locs hP hD hS => ?_)
              obtain ⟨wkd_u38, ewkd_u38⟩ : ∃ f : Nat → Int32, f = upd wkd_19 y19_4.toNatClampNeg x26 := ⟨_, rfl⟩
              have rwkd_u38 : rg 8 (0) (15) wkd_u38 := by rw [ewkd_u38]; exact g37
              have hP : va_P (dC, dI) vwCl (wPln cI cZ cQ a min tri_u35 bes_19 wkd_u38 cos rst bst_19 top str gho ghs pto cro pla wal fal tel gai day mar few doo) H := by rw [ewkd_u38]; exact hP
              have hD : va_D A (wPln cI cZ cQ a min tri_u35 bes_19 wkd_u38 cos rst bst_19 top str gho ghs pto cro pla wal fal tel gai day mar few doo) := by rw [ewkd_u38]; exact hD
              refine lv_aload_n hx hb dX3_seek_99 rfl (lv_at hl 3 rfl) ?_
              refine lv_iload_n hx hb dX3_seek_100 rfl (lv_at hl 4 rfl) ?_
              refine lv_iconst (v := 1) hx hb dX3_seek_101 (by decide) ?_
              refine lv_iadd hx hb dX3_seek_102 ?_
              have f39 : (i + 1).toInt = (i.toInt) + (1) := addC rfl (show (1 : Int32).toInt = 1 from rfl) (by omega) (by omega)
              refine lv_iload_n hx hb dX3_seek_103 rfl (lv_at hl 5 rfl) ?_
              refine lv_iload_n hx hb dX3_seek_104 rfl (lv_at hl 6 rfl) ?_
              refine lv_iload hx hb dX3_seek_105 (lv_at hl 0 rfl) ?_
              refine lv_iadd hx hb dX3_seek_107 ?_
              refine wvV (As := [.int (i + 1), .int n, .int (al + x33)]) (rest := []) (wr := []) (w2 := (fun u : US => (wPln cI cZ cQ a min (u.1 0) (u.1 1) (u.1 2) cos rst (u.1 3 0) top str gho ghs pto cro pla wal fal tel gai day mar few doo))) ⟨hx, hb, hml, hown, hts⟩ (k_X3_seek_0 l dC dI cI cZ cQ a min tri_u35 bes_19 wkd_u38 cos rst bst_19 top str gho ghs pto cro pla wal fal tel gai day mar few doo _ (i + 1) n (al + x33) rwkd_u38 r_top r_str r_gho r_ghs r_cro r_pla r_fal r_gai r_day r_mar (by omega) (by omega) (by omega) (by omega)) (cwV 3 hts gX3_seek_X3_seek rfl rfl rfl (by decide +kernel) ⟨Nat.le_of_ble_eq_true rfl, Nat.le_of_ble_eq_true rfl⟩) hP hD hS hA hK hN [0, 1, 2, 3, 4, 5, 6, 7, 8, 9, 10, 11, 12, 13, 14, 15, 16, 17, 18, 19, 20] [] [0, 1, 2, 3, 4, 5, 6, 7, 8, 9, 10, 11, 12, 13, 14, 15, 16, 17, 18, 19, 20] rfl rfl (by decide) (by decide) (by decide) (fun _ => rfl) (by decide) 0 3 rfl rfl rfl hl.1 rfl (Nat.le_of_ble_eq_true rfl) dX3_seek_108 ⟨Nat.le_of_ble_eq_true rfl, Nat.le_of_ble_eq_true rfl⟩ (fun u42 H locs h41 hP hD hS => ?_)
              obtain ⟨tri_c43, etri_c43⟩ : ∃ f : Nat → Int32, f = (u42.1 0) := ⟨_, rfl⟩
              obtain ⟨bes_c44, ebes_c44⟩ : ∃ f : Nat → Int32, f = (u42.1 1) := ⟨_, rfl⟩
              obtain ⟨wkd_c45, ewkd_c45⟩ : ∃ f : Nat → Int32, f = (u42.1 2) := ⟨_, rfl⟩
              obtain ⟨bst_c46, ebst_c46⟩ : ∃ f : Int32, f = (u42.1 3 0) := ⟨_, rfl⟩
              have hP : va_P (dC, dI) vwCl (wPln cI cZ cQ a min tri_c43 bes_c44 wkd_c45 cos rst bst_c46 top str gho ghs pto cro pla wal fal tel gai day mar few doo) H := by rw [etri_c43, ebes_c44, ewkd_c45, ebst_c46]; exact hP
              have hD : va_D A (wPln cI cZ cQ a min tri_c43 bes_c44 wkd_c45 cos rst bst_c46 top str gho ghs pto cro pla wal fal tel gai day mar few doo) := by rw [etri_c43, ebes_c44, ewkd_c45, ebst_c46]; exact hD
              have h41 : (rg 8 (0) (15) wkd_c45) := by (try rw [etri_c43]); (try rw [ebes_c44]); (try rw [ewkd_c45]); (try rw [ebst_c46]); exact h41
              have h41_0 := h41
              refine lv_aload_n hx hb dX3_seek_111 rfl (lv_at hl 3 rfl) ?_
              refine va_get (D := (dC, dI)) (ci := 3) (v := .ref (a 20)) (C := RX3) (T := TX3) (N := 9) hx hb hts inX3 hown hK hP 0 rfl rfl 5 (by decide) lf21 (fun _ h9 => h9) rfl dX3_seek_112 ?_
              refine lv_iload hx hb dX3_seek_115 (lv_at hl 7 rfl) ?_
              refine lv_iload hx hb dX3_seek_117 (lv_at hl 2 rfl) ?_
              have b47 : vp_in y19_4 8 := inC rfl (by omega) (by omega)
              have g48 : rg 8 (0) (15) (upd wkd_c45 y19_4.toNatClampNeg x23) := rg_upd h41_0 rfl (by omega) (by omega)
              refine va_iast hx hb hK hP hD hS 4 0 rfl rfl b47 dX3_seek_119 (fun H locs hP hD hS => ?_)
              obtain ⟨wkd_u49, ewkd_u49⟩ : ∃ f : Nat → Int32, f = upd wkd_c45 y19_4.toNatClampNeg x23 := ⟨_, rfl⟩
              have rwkd_u49 : rg 8 (0) (15) wkd_u49 := by rw [ewkd_u49]; exact g48
              have hP : va_P (dC, dI) vwCl (wPln cI cZ cQ a min tri_c43 bes_c44 wkd_u49 cos rst bst_c46 top str gho ghs pto cro pla wal fal tel gai day mar few doo) H := by rw [ewkd_u49]; exact hP
              have hD : va_D A (wPln cI cZ cQ a min tri_c43 bes_c44 wkd_u49 cos rst bst_c46 top str gho ghs pto cro pla wal fal tel gai day mar few doo) := by rw [ewkd_u49]; exact hD
              obtain ⟨z50, ez50⟩ : ∃ y : Int32, y = y19_4 + 1 := ⟨_, rfl⟩
              have iz50 : z50.toInt = y19_4.toInt + 1 := by rw [ez50]; exact addC rfl rfl (by omega) (by omega)
              refine lv_iinc (v := z50) (lv' := [(4, .int z50), (7, .int x33), (6, .int x26), (5, .int x23), (0, .ref (a 16)), (1, .int i), (2, .int n), (3, .int al)]) hx hb dX3_seek_120 hl (k := 7) rfl (by rw [ez50]; rfl) (by decide) rfl (fun ls hl => ?_)
              refine lv_goto (tgt := 19) hx hb dX3_seek_123 (by decide) ?_
              exact ih19 z50 tri_c43 bes_c44 wkd_u49 bst_c46 _ _ _ rwkd_u49 (by omega) (by omega) (by omega) hP hD hS (lv_sub hl [4, 5, 6, 7, 0] rfl)
            · refine lv_if_eq (tgt := 120) hx hb dX3_seek_33 (by decide) (fun _ => ?_) (fun c9 => absurd (by decide) c9)
              obtain ⟨z51, ez51⟩ : ∃ y : Int32, y = y19_4 + 1 := ⟨_, rfl⟩
              have iz51 : z51.toInt = y19_4.toInt + 1 := by rw [ez51]; exact addC rfl rfl (by omega) (by omega)
              refine lv_iinc (v := z51) (lv' := [(4, .int z51), (0, .ref (a 16)), (1, .int i), (2, .int n), (3, .int al)]) hx hb dX3_seek_120 hl (k := 4) rfl (by rw [ez51]; rfl) (by decide) rfl (fun ls hl => ?_)
              refine lv_goto (tgt := 19) hx hb dX3_seek_123 (by decide) ?_
              exact ih19 z51 tri_19 bes_19 wkd_19 bst_19 _ _ _ r_wkd_19 (by omega) (by omega) (by omega) hP hD hS (lv_sub hl [1, 2, 3, 4, 0] rfl)
      have kc52 : (0 : Int32).toInt = 0 := rfl
      exact L19 _ 0 tri bes wkd bst _ _ _ r_wkd (by omega) (by omega) (Nat.lt_succ_self _) hP hD hS (lv_sub hl [1, 2, 3, 4, 0] rfl)
    · have dc7 : 4 ≤ i.toInt := nltC rfl (show (4 : Int32).toInt = 4 from rfl) c7
      exfalso
      omega
set_option maxHeartbeats 4000000 in
set_option maxRecDepth 100000 in
theorem k_X3_seek_2 (l : Launch) (dC : Nat → ClassId) (dI : Nat → Nat → Nat) (cI cZ cQ : ClassId) (a : Nat → Nat) (min : Nat → Int32) (tri : Nat → Int32) (bes : Nat → Int32) (wkd : Nat → Int32) (cos : Nat → Int32) (rst : Nat → Int32) (bst : Int32) (top : Nat → Int32) (str : Nat → Int32) (gho : Nat → Int32) (ghs : Nat → Int32) (pto : Nat → Int32) (cro : Nat → Int32) (pla : Nat → Int32) (wal : Nat → Int32) (fal : Nat → Int32) (tel : Int32) (gai : Int32) (day : Int32) (mar : Nat → Int32) (few : Nat → Int32) (doo : Int32) (sz : Nat) (i : Int32) (n : Int32) (al : Int32) (r_wkd : rg 8 (0) (15) wkd) (r_top : rg 48 (-1) (23) top) (r_str : rg 48 (0) (100) str) (r_gho : rg 48 (-1) (23) gho) (r_ghs : rg 48 (0) (100) ghs) (r_cro : rg 48 (0) (6) cro) (r_pla : rg 24 (-1) (47) pla) (r_fal : rg 11 (0) (30) fal) (r_gai : 0 ≤ gai.toInt ∧ gai.toInt ≤ 100) (r_day : 0 ≤ day.toInt ∧ day.toInt ≤ 400) (r_mar : rg 24 (0) (255) mar) (q0 : 2 ≤ i.toInt) (q1 : i.toInt ≤ 4) (q2 : 1 ≤ n.toInt) (q3 : n.toInt ≤ 4) : KV l yX3_seek wsX3_seek { frames := 4, cells := 0, slots := 0, locals := 115 } (dC, dI) (TY cI cZ cQ) (wPln cI cZ cQ a min tri bes wkd cos rst bst top str gho ghs pto cro pla wal fal tel gai day mar few doo) [.ref (a 16), .int i, .int n, .int al] sz 0 0 (fun (u : US) => (rg 8 (0) (15) (u.1 2))) (fun u : US => (wPln cI cZ cQ a min (u.1 0) (u.1 1) (u.1 2) cos rst (u.1 3 0) top str gho ghs pto cro pla wal fal tel gai day mar few doo)) := by
  refine Met.ofW (cc := cX3_seek) (maxL := 8) (ret := none) (by decide) rfl ?_
  intro p e s m args below meth c s₁ B hml hv
  obtain ⟨rfl, hsz, hP, hK, hD0, hN⟩ := hv
  have hx := B.exec
  have hb := B.bytes
  have hr := B.returns
  have hts := atoms_spec (ws := wsX3_seek) B.pre
  have hown : s.vm.findClass RX3 = some m.cls := findClass_of_methodNamed B.named
  have hlocks := B.notSynchronized
  have lf15 := hts (.fieldLink RX3 15 "PalaceOfRooms$Planner" "trial" "[I") (by decide +kernel)
  have inX3 : ∀ w ∈ wsX30, w ∈ wsX3_seek := by decide +kernel
  have lf21 := hts (.fieldLink RX3 21 "PalaceOfRooms$Planner" "walkedDays" "[I") (by decide +kernel)
  have lf27 := hts (.fieldLink RX3 27 "PalaceOfRooms$Planner" "roomStrength" "[I") (by decide +kernel)
  subst hsz
  have hD := hD0.self (sz := s.heap.size)
  generalize hAe : va_A (wPln cI cZ cQ a min tri bes wkd cos rst bst top str gho ghs pto cro pla wal fal tel gai day mar few doo) s.heap.size = A at hD ⊢
  have hA : ∀ q : Nat, s.heap.size ≤ q → A q := fun q h => by rw [← hAe]; exact Or.inr h
  have hS : va_S A s.heap s.heap [] := va_S.rf
  have hl := lv_entry ([.ref (a 16), .int i, .int n, .int al]) (n := 8) (Nat.le_of_ble_eq_true rfl)
  rw [lg_entry_eq]
  generalize (lg_sl ([.ref (a 16), .int i, .int n, .int al]) ++ List.replicate (8 - (lg_sl ([.ref (a 16), .int i, .int n, .int al])).length) Slot.unset).toArray = ls at hl ⊢
  have hl : lv_has ls 8 [(0, .ref (a 16)), (1, .int i), (2, .int n), (3, .int al)] := hl
  refine lv_iload_n hx hb dX3_seek_0 rfl (lv_at hl 1 rfl) ?_
  refine lv_iload_n hx hb dX3_seek_1 rfl (lv_at hl 2 rfl) ?_
  refine lv_icmp_ge (tgt := 10) hx hb dX3_seek_2 (by decide) (fun c1 => ?_) (fun c1 => ?_)
  · have dc1 : n.toInt ≤ i.toInt := leC rfl rfl c1
    refine lv_aload_n hx hb dX3_seek_10 rfl (lv_at hl 0 rfl) ?_
    refine lv_iload_n hx hb dX3_seek_11 rfl (lv_at hl 3 rfl) ?_
    refine wvV (As := [.int al]) (rest := []) (wr := []) (w2 := (fun u : US => (wPln cI cZ cQ a min tri (u.1 1) wkd cos rst (u.1 0 0) top str gho ghs pto cro pla wal fal tel gai day mar few doo))) ⟨hx, hb, hml, hown, hts⟩ (k_X3_keepIfStronger l dC dI cI cZ cQ a min tri bes wkd cos rst bst top str gho ghs pto cro pla wal fal tel gai day mar few doo _ al r_wkd r_top r_str r_gho r_ghs r_cro r_pla r_fal r_gai r_day r_mar) (cwV 1 hts gX3_seek_X3_keepIfStronger rfl rfl rfl (by decide +kernel) ⟨Nat.le_of_ble_eq_true rfl, Nat.le_of_ble_eq_true rfl⟩) hP hD hS hA hK hN [0, 1, 2, 3, 4, 5, 6, 7, 8, 9, 10, 11, 12, 13, 14, 15, 16, 17, 18, 19, 20] [] [0, 1, 2, 3, 4, 5, 6, 7, 8, 9, 10, 11, 12, 13, 14, 15, 16, 17, 18, 19, 20] rfl rfl (by decide) (by decide) (by decide) (fun _ => rfl) (by decide) 0 3 rfl rfl rfl hl.1 rfl (Nat.le_of_ble_eq_true rfl) dX3_seek_12 ⟨Nat.le_of_ble_eq_true rfl, Nat.le_of_ble_eq_true rfl⟩ (fun u4 H locs h3 hP hD hS => ?_)
    obtain ⟨bst_c5, ebst_c5⟩ : ∃ f : Int32, f = (u4.1 0 0) := ⟨_, rfl⟩
    obtain ⟨bes_c6, ebes_c6⟩ : ∃ f : Nat → Int32, f = (u4.1 1) := ⟨_, rfl⟩
    have hP : va_P (dC, dI) vwCl (wPln cI cZ cQ a min tri bes_c6 wkd cos rst bst_c5 top str gho ghs pto cro pla wal fal tel gai day mar few doo) H := by rw [ebst_c5, ebes_c6]; exact hP
    have hD : va_D A (wPln cI cZ cQ a min tri bes_c6 wkd cos rst bst_c5 top str gho ghs pto cro pla wal fal tel gai day mar few doo) := by rw [ebst_c5, ebes_c6]; exact hD
    have h3 : True := by (try rw [ebst_c5]); (try rw [ebes_c6]); exact h3
    exact W.vret hx hb hr (fun t ht hW => ⟨⟨(uS [tri, bes_c6, wkd, (fun _ => bst_c5)] 0 (fun _ => 0)), rfl, r_wkd, by rw [ht]; exact hP, hD⟩, hS.F ht⟩) hS.2.2 dX3_seek_15
  · have dc1 : i.toInt < n.toInt := nleC rfl rfl c1
    refine lv_iload_n hx hb dX3_seek_5 rfl (lv_at hl 1 rfl) ?_
    refine lv_iconst (v := 4) hx hb dX3_seek_6 (by decide) ?_
    refine lv_icmp_lt (tgt := 16) hx hb dX3_seek_7 (by decide) (fun c7 => ?_) (fun c7 => ?_)
    · have dc7 : i.toInt < 4 := ltC rfl (show (4 : Int32).toInt = 4 from rfl) c7
      refine lv_iconst (v := 0) hx hb dX3_seek_16 (by decide) ?_
      refine lv_istore (lv' := [(4, .int 0), (0, .ref (a 16)), (1, .int i), (2, .int n), (3, .int al)]) hx hb dX3_seek_17 hl (by decide) rfl (fun ls hl => ?_)
      have L19 : ∀ (nn : Nat) (y19_4 : Int32) (tri_19 : Nat → Int32) (bes_19 : Nat → Int32) (wkd_19 : Nat → Int32) (bst_19 : Int32) (H : Heap) (locs : List Loc) (ls : Array Slot), (rg 8 (0) (15) wkd_19) → (0 ≤ (y19_4.toInt)) → ((y19_4.toInt) ≤ 8) → (8 - (y19_4.toInt)).toNat < nn → va_P (dC, dI) vwCl (wPln cI cZ cQ a min tri_19 bes_19 wkd_19 cos rst bst_19 top str gho ghs pto cro pla wal fal tel gai day mar few doo) H → va_D A (wPln cI cZ cQ a min tri_19 bes_19 wkd_19 cos rst bst_19 top str gho ghs pto cro pla wal fal tel gai day mar few doo) → va_S A s.heap H locs → lv_has ls 8 [(0, .ref (a 16)), (1, .int i), (2, .int n), (3, .int al), (4, .int y19_4)] → W p l e (headSpec wsX3_seek { frames := 4, cells := 0, slots := 0, locals := 115 }).room s m ([.ref (a 16), .int i, .int n, .int al] : List Value).toArray below meth c H locs 0 0 (MQ below (va_Qv (fun (u : US) => (rg 8 (0) (15) (u.1 2))) (Bw (dC, dI) A (fun u : US => (wPln cI cZ cQ a min (u.1 0) (u.1 1) (u.1 2) cos rst (u.1 3 0) top str gho ghs pto cro pla wal fal tel gai day mar few doo))) A) ([.ref (a 16), .int i, .int n, .int al] : List Value).toArray s 0 0 A) (F0 m 19 ls []) := by
        intro nn
        induction nn with
        | zero =>
          intro y19_4 tri_19 bes_19 wkd_19 bst_19 H locs ls r_wkd_19 i19_0 i19_1 hm
          exact absurd hm (Nat.not_lt_zero _)
        | succ nn ih19 =>
          intro y19_4 tri_19 bes_19 wkd_19 bst_19 H locs ls r_wkd_19 i19_0 i19_1 hm hP hD hS hl
          refine lv_iload hx hb dX3_seek_19 (lv_at hl 4 rfl) ?_
          refine lv_bipush (v := 8) hx hb dX3_seek_21 (by decide) ?_
          refine lv_icmp_ge (tgt := 126) hx hb dX3_seek_23 (by decide) (fun c8 => ?_) (fun c8 => ?_)
          · have dc8 : 8 ≤ y19_4.toInt := leC (show (8 : Int32).toInt = 8 from rfl) rfl c8
            refine lv_aload_n hx hb dX3_seek_126 rfl (lv_at hl 0 rfl) ?_
            refine va_get (D := (dC, dI)) (ci := 3) (v := .ref (a 18)) (C := RX3) (T := TX3) (N := 9) hx hb hts inX3 hown hK hP 0 rfl rfl 3 (by decide) lf15 (fun _ h9 => h9) rfl dX3_seek_127 ?_
            refine lv_iload_n hx hb dX3_seek_130 rfl (lv_at hl 1 rfl) ?_
            refine lv_bipush (v := 8) hx hb dX3_seek_131 (by decide) ?_
            have b9 : vp_in i 4 := inC rfl (by omega) (by omega)
            refine va_iast hx hb hK hP hD hS 2 0 rfl rfl b9 dX3_seek_133 (fun H locs hP hD hS => ?_)
            obtain ⟨tri_u10, etri_u10⟩ : ∃ f : Nat → Int32, f = upd tri_19 i.toNatClampNeg 8 := ⟨_, rfl⟩
            have hP : va_P (dC, dI) vwCl (wPln cI cZ cQ a min tri_u10 bes_19 wkd_19 cos rst bst_19 top str gho ghs pto cro pla wal fal tel gai day mar few doo) H := by rw [etri_u10]; exact hP
            have hD : va_D A (wPln cI cZ cQ a min tri_u10 bes_19 wkd_19 cos rst bst_19 top str gho ghs pto cro pla wal fal tel gai day mar few doo) := by rw [etri_u10]; exact hD
            refine lv_aload_n hx hb dX3_seek_134 rfl (lv_at hl 0 rfl) ?_
            refine lv_iload_n hx hb dX3_seek_135 rfl (lv_at hl 1 rfl) ?_
            refine lv_iconst (v := 1) hx hb dX3_seek_136 (by decide) ?_
            refine lv_iadd hx hb dX3_seek_137 ?_
            have f11 : (i + 1).toInt = (i.toInt) + (1) := addC rfl (show (1 : Int32).toInt = 1 from rfl) (by omega) (by omega)
            refine lv_iload_n hx hb dX3_seek_138 rfl (lv_at hl 2 rfl) ?_
            refine lv_iload_n hx hb dX3_seek_139 rfl (lv_at hl 3 rfl) ?_
            refine wvV (As := [.int (i + 1), .int n, .int al]) (rest := []) (wr := []) (w2 := (fun u : US => (wPln cI cZ cQ a min (u.1 0) (u.1 1) (u.1 2) cos rst (u.1 3 0) top str gho ghs pto cro pla wal fal tel gai day mar few doo))) ⟨hx, hb, hml, hown, hts⟩ (k_X3_seek_1 l dC dI cI cZ cQ a min tri_u10 bes_19 wkd_19 cos rst bst_19 top str gho ghs pto cro pla wal fal tel gai day mar few doo _ (i + 1) n al r_wkd_19 r_top r_str r_gho r_ghs r_cro r_pla r_fal r_gai r_day r_mar (by omega) (by omega) (by omega) (by omega)) (cwV 3 hts gX3_seek_X3_seek rfl rfl rfl (by decide +kernel) ⟨Nat.le_of_ble_eq_true rfl, Nat.le_of_ble_eq_true rfl⟩) hP hD hS hA hK hN [0, 1, 2, 3, 4, 5, 6, 7, 8, 9, 10, 11, 12, 13, 14, 15, 16, 17, 18, 19, 20] [] [0, 1, 2, 3, 4, 5, 6, 7, 8, 9, 10, 11, 12, 13, 14, 15, 16, 17, 18, 19, 20] rfl rfl (by decide) (by decide) (by decide) (fun _ => rfl) (by decide) 0 3 rfl rfl rfl hl.1 rfl (Nat.le_of_ble_eq_true rfl) dX3_seek_140 ⟨Nat.le_of_ble_eq_true rfl, Nat.le_of_ble_eq_true rfl⟩ (fun u14 H locs h13 hP hD hS => ?_)
            obtain ⟨tri_c15, etri_c15⟩ : ∃ f : Nat → Int32, f = (u14.1 0) := ⟨_, rfl⟩
            obtain ⟨bes_c16, ebes_c16⟩ : ∃ f : Nat → Int32, f = (u14.1 1) := ⟨_, rfl⟩
            obtain ⟨wkd_c17, ewkd_c17⟩ : ∃ f : Nat → Int32, f = (u14.1 2) := ⟨_, rfl⟩
            obtain ⟨bst_c18, ebst_c18⟩ : ∃ f : Int32, f = (u14.1 3 0) := ⟨_, rfl⟩
            have hP : va_P (dC, dI) vwCl (wPln cI cZ cQ a min tri_c15 bes_c16 wkd_c17 cos rst bst_c18 top str gho ghs pto cro pla wal fal tel gai day mar few doo) H := by rw [etri_c15, ebes_c16, ewkd_c17, ebst_c18]; exact hP
            have hD : va_D A (wPln cI cZ cQ a min tri_c15 bes_c16 wkd_c17 cos rst bst_c18 top str gho ghs pto cro pla wal fal tel gai day mar few doo) := by rw [etri_c15, ebes_c16, ewkd_c17, ebst_c18]; exact hD
            have h13 : (rg 8 (0) (15) wkd_c17) := by (try rw [etri_c15]); (try rw [ebes_c16]); (try rw [ewkd_c17]); (try rw [ebst_c18]); exact h13
            have h13_0 := h13
            exact W.vret hx hb hr (fun t ht hW => ⟨⟨(uS [tri_c15, bes_c16, wkd_c17, (fun _ => bst_c18)] 0 (fun _ => 0)), rfl, h13_0, by rw [ht]; exact hP, hD⟩, hS.F ht⟩) hS.2.2 dX3_seek_143
          · have dc8 : y19_4.toInt < 8 := nleC (show (8 : Int32).toInt = 8 from rfl) rfl c8
            refine lv_aload_n hx hb dX3_seek_26 rfl (lv_at hl 0 rfl) ?_
            refine lv_iload hx hb dX3_seek_27 (lv_at hl 4 rfl) ?_
            refine lv_iload_n hx hb dX3_seek_29 rfl (lv_at hl 1 rfl) ?_
            refine rdV (As := [.int y19_4, .int i]) (rest := []) ⟨hx, hb, hml, hown, hts⟩ (k_X3_walkable l dC dI cI cZ cQ a min tri_19 bes_19 wkd_19 cos rst bst_19 top str gho ghs pto cro pla wal fal tel gai day mar few doo y19_4 i r_wkd_19 r_top r_str r_gho r_ghs r_cro r_pla r_fal r_gai r_day r_mar (by omega) (by omega) (by omega) (by omega)) (cwV 2 hts gX3_seek_X3_walkable rfl rfl rfl (by decide +kernel) ⟨Nat.le_of_ble_eq_true rfl, Nat.le_of_ble_eq_true rfl⟩) hP hK hN [0, 1, 2, 3, 4, 5, 6, 7, 8, 9, 10, 11, 12, 13, 14, 15, 16, 17, 18, 19, 20] rfl 0 3 rfl rfl rfl hl.1 rfl (Nat.le_of_ble_eq_true rfl) dX3_seek_30 ⟨Nat.le_of_ble_eq_true rfl, Nat.le_of_ble_eq_true rfl⟩ (fun r19 h20 => ?_)
            have h20 : ((((r19 = 1)) ∨ ((r19 = 0)))) := h20
            rcases h20 with (rfl | rfl)
            · refine lv_if_eq (tgt := 120) hx hb dX3_seek_33 (by decide) (fun c9 => absurd c9 (by decide)) (fun _ => ?_)
              refine lv_aload_n hx hb dX3_seek_36 rfl (lv_at hl 0 rfl) ?_
              refine va_get (D := (dC, dI)) (ci := 3) (v := .ref (a 20)) (C := RX3) (T := TX3) (N := 9) hx hb hts inX3 hown hK hP 0 rfl rfl 5 (by decide) lf21 (fun _ h9 => h9) rfl dX3_seek_37 ?_
              refine lv_iload hx hb dX3_seek_40 (lv_at hl 4 rfl) ?_
              have b21 : vp_in y19_4 8 := inC rfl (by omega) (by omega)
              refine va_iald hx hb hK hP 4 0 rfl rfl b21 dX3_seek_42 ?_
              have g22 : 0 ≤ (wkd_19 y19_4.toNatClampNeg).toInt ∧ (wkd_19 y19_4.toNatClampNeg).toInt ≤ 15 := rg_at r_wkd_19 b21
              refine lv_topi (fun x23 ex23 => ?_)
              have ix23 : x23.toInt = (wkd_19 y19_4.toNatClampNeg).toInt := by rw [ex23]
              refine lv_istore (lv' := [(5, .int x23), (0, .ref (a 16)), (1, .int i), (2, .int n), (3, .int al), (4, .int y19_4)]) hx hb dX3_seek_43 hl (by decide) rfl (fun ls hl => ?_)
              refine lv_iload hx hb dX3_seek_45 (lv_at hl 0 rfl) ?_
              refine lv_iconst (v := 1) hx hb dX3_seek_47 (by decide) ?_
              refine lv_iload_n hx hb dX3_seek_48 rfl (lv_at hl 2 rfl) ?_
              refine lv_ishl hx hb dX3_seek_49 ?_
              have f24 : 1 ≤ ((1 : Int32) <<< (i &&& 31)).toInt ∧ ((1 : Int32) <<< (i &&& 31)).toInt ≤ 8 := shl1 rfl (by omega) 3 (by omega) (by decide)
              refine lv_ior hx hb dX3_seek_50 ?_
              have f25 : 0 ≤ (x23 ||| ((1 : Int32) <<< (i &&& 31))).toInt ∧ (x23 ||| ((1 : Int32) <<< (i &&& 31))).toInt ≤ 15 := orB rfl rfl 4 (by omega) (by omega) (by omega) (by omega) (by decide)
              refine lv_topi (fun x26 ex26 => ?_)
              have ix26 : x26.toInt = (x23 ||| ((1 : Int32) <<< (i &&& 31))).toInt := by rw [ex26]
              refine lv_istore (lv' := [(6, .int x26), (5, .int x23), (0, .ref (a 16)), (1, .int i), (2, .int n), (3, .int al), (4, .int y19_4)]) hx hb dX3_seek_51 hl (by decide) rfl (fun ls hl => ?_)
              refine lv_aload_n hx hb dX3_seek_53 rfl (lv_at hl 2 rfl) ?_
              refine va_get (D := (dC, dI)) (ci := 3) (v := .ref (a 22)) (C := RX3) (T := TX3) (N := 9) hx hb hts inX3 hown hK hP 0 rfl rfl 7 (by decide) lf27 (fun _ h9 => h9) rfl dX3_seek_54 ?_
              refine lv_iload hx hb dX3_seek_57 (lv_at hl 6 rfl) ?_
              refine lv_bipush (v := 16) hx hb dX3_seek_59 (by decide) ?_
              refine lv_imul hx hb dX3_seek_61 ?_
              have f27 : (y19_4 * 16).toInt = (y19_4.toInt) * (16) := mulC rfl (show (16 : Int32).toInt = 16 from rfl) (by omega) (by omega)
              refine lv_iload hx hb dX3_seek_62 (lv_at hl 0 rfl) ?_
              refine lv_iadd hx hb dX3_seek_64 ?_
              have f28 : ((y19_4 * 16) + x26).toInt = ((y19_4.toInt) * (16)) + (x26.toInt) := addC f27 rfl (by omega) (by omega)
              have b29 : vp_in ((y19_4 * 16) + x26) 128 := inC f28 (by omega) (by omega)
              refine va_iald hx hb hK hP 6 0 rfl rfl b29 dX3_seek_65 ?_
              refine lv_aload_n hx hb dX3_seek_66 rfl (lv_at hl 2 rfl) ?_
              refine va_get (D := (dC, dI)) (ci := 3) (v := .ref (a 22)) (C := RX3) (T := TX3) (N := 9) hx hb hts inX3 hown hK hP 0 rfl rfl 7 (by decide) lf27 (fun _ h9 => h9) rfl dX3_seek_67 ?_
              refine lv_iload hx hb dX3_seek_70 (lv_at hl 6 rfl) ?_
              refine lv_bipush (v := 16) hx hb dX3_seek_72 (by decide) ?_
              refine lv_imul hx hb dX3_seek_74 ?_
              have f30 : (y19_4 * 16).toInt = (y19_4.toInt) * (16) := mulC rfl (show (16 : Int32).toInt = 16 from rfl) (by omega) (by omega)
              refine lv_iload hx hb dX3_seek_75 (lv_at hl 1 rfl) ?_
              refine lv_iadd hx hb dX3_seek_77 ?_
              have f31 : ((y19_4 * 16) + x23).toInt = ((y19_4.toInt) * (16)) + (x23.toInt) := addC f30 rfl (by omega) (by omega)
              have b32 : vp_in ((y19_4 * 16) + x23) 128 := inC f31 (by omega) (by omega)
              refine va_iald hx hb hK hP 6 0 rfl rfl b32 dX3_seek_78 ?_
              refine lv_isub hx hb dX3_seek_79 ?_
              refine lv_topi (fun x33 ex33 => ?_)
              have ix33 : x33.toInt = ((rst ((y19_4 * 16) + x26).toNatClampNeg) - (rst ((y19_4 * 16) + x23).toNatClampNeg)).toInt := by rw [ex33]
              refine lv_istore (lv' := [(7, .int x33), (6, .int x26), (5, .int x23), (0, .ref (a 16)), (1, .int i), (2, .int n), (3, .int al), (4, .int y19_4)]) hx hb dX3_seek_80 hl (by decide) rfl (fun ls hl => ?_)
              refine lv_aload_n hx hb dX3_seek_82 rfl (lv_at hl 3 rfl) ?_
              refine va_get (D := (dC, dI)) (ci := 3) (v := .ref (a 18)) (C := RX3) (T := TX3) (N := 9) hx hb hts inX3 hown hK hP 0 rfl rfl 3 (by decide) lf15 (fun _ h9 => h9) rfl dX3_seek_83 ?_
              refine lv_iload_n hx hb dX3_seek_86 rfl (lv_at hl 4 rfl) ?_
              refine lv_iload hx hb dX3_seek_87 (lv_at hl 7 rfl) ?_
              have b34 : vp_in i 4 := inC rfl (by omega) (by omega)
              refine va_iast hx hb hK hP hD hS 2 0 rfl rfl b34 dX3_seek_89 (fun H locs hP hD hS => ?_)
              obtain ⟨tri_u35, etri_u35⟩ : ∃ f : Nat → Int32, f = upd tri_19 i.toNatClampNeg y19_4 := ⟨_, rfl⟩
              have hP : va_P (dC, dI) vwCl (wPln cI cZ cQ a min tri_u35 bes_19 wkd_19 cos rst bst_19 top str gho ghs pto cro pla wal fal tel gai day mar few doo) H := by rw [etri_u35]; exact hP
              have hD : va_D A (wPln cI cZ cQ a min tri_u35 bes_19 wkd_19 cos rst bst_19 top str gho ghs pto cro pla wal fal tel gai day mar few doo) := by rw [etri_u35]; exact hD
              refine lv_aload_n hx hb dX3_seek_90 rfl (lv_at hl 3 rfl) ?_
              refine va_get (D := (dC, dI)) (ci := 3) (v := .ref (a 20)) (C := RX3) (T := TX3) (N := 9) hx hb hts inX3 hown hK hP 0 rfl rfl 5 (by decide) lf21 (fun _ h9 => h9) rfl dX3_seek_91 ?_
              refine lv_iload hx hb dX3_seek_94 (lv_at hl 7 rfl) ?_
              refine lv_iload hx hb dX3_seek_96 (lv_at hl 1 rfl) ?_
              have b36 : vp_in y19_4 8 := inC rfl (by omega) (by omega)
              have g37 : rg 8 (0) (15) (upd wkd_19 y19_4.toNatClampNeg x26) := rg_upd r_wkd_19 rfl (by omega) (by omega)
              refine va_iast hx hb hK hP hD hS 4 0 rfl rfl b36 dX3_seek_98 (fun H locs hP hD hS => ?_)
              obtain ⟨wkd_u38, ewkd_u38⟩ : ∃ f : Nat → Int32, f = upd wkd_19 y19_4.toNatClampNeg x26 := ⟨_, rfl⟩
              have rwkd_u38 : rg 8 (0) (15) wkd_u38 := by rw [ewkd_u38]; exact g37
              have hP : va_P (dC, dI) vwCl (wPln cI cZ cQ a min tri_u35 bes_19 wkd_u38 cos rst bst_19 top str gho ghs pto cro pla wal fal tel gai day mar few doo) H := by rw [ewkd_u38]; exact hP
              have hD : va_D A (wPln cI cZ cQ a min tri_u35 bes_19 wkd_u38 cos rst bst_19 top str gho ghs pto cro pla wal fal tel gai day mar few doo) := by rw [ewkd_u38]; exact hD
              refine lv_aload_n hx hb dX3_seek_99 rfl (lv_at hl 3 rfl) ?_
              refine lv_iload_n hx hb dX3_seek_100 rfl (lv_at hl 4 rfl) ?_
              refine lv_iconst (v := 1) hx hb dX3_seek_101 (by decide) ?_
              refine lv_iadd hx hb dX3_seek_102 ?_
              have f39 : (i + 1).toInt = (i.toInt) + (1) := addC rfl (show (1 : Int32).toInt = 1 from rfl) (by omega) (by omega)
              refine lv_iload_n hx hb dX3_seek_103 rfl (lv_at hl 5 rfl) ?_
              refine lv_iload_n hx hb dX3_seek_104 rfl (lv_at hl 6 rfl) ?_
              refine lv_iload hx hb dX3_seek_105 (lv_at hl 0 rfl) ?_
              refine lv_iadd hx hb dX3_seek_107 ?_
              refine wvV (As := [.int (i + 1), .int n, .int (al + x33)]) (rest := []) (wr := []) (w2 := (fun u : US => (wPln cI cZ cQ a min (u.1 0) (u.1 1) (u.1 2) cos rst (u.1 3 0) top str gho ghs pto cro pla wal fal tel gai day mar few doo))) ⟨hx, hb, hml, hown, hts⟩ (k_X3_seek_1 l dC dI cI cZ cQ a min tri_u35 bes_19 wkd_u38 cos rst bst_19 top str gho ghs pto cro pla wal fal tel gai day mar few doo _ (i + 1) n (al + x33) rwkd_u38 r_top r_str r_gho r_ghs r_cro r_pla r_fal r_gai r_day r_mar (by omega) (by omega) (by omega) (by omega)) (cwV 3 hts gX3_seek_X3_seek rfl rfl rfl (by decide +kernel) ⟨Nat.le_of_ble_eq_true rfl, Nat.le_of_ble_eq_true rfl⟩) hP hD hS hA hK hN [0, 1, 2, 3, 4, 5, 6, 7, 8, 9, 10, 11, 12, 13, 14, 15, 16, 17, 18, 19, 20] [] [0, 1, 2, 3, 4, 5, 6, 7, 8, 9, 10, 11, 12, 13, 14, 15, 16, 17, 18, 19, 20] rfl rfl (by decide) (by decide) (by decide) (fun _ => rfl) (by decide) 0 3 rfl rfl rfl hl.1 rfl (Nat.le_of_ble_eq_true rfl) dX3_seek_108 ⟨Nat.le_of_ble_eq_true rfl, Nat.le_of_ble_eq_true rfl⟩ (fun u42 H locs h41 hP hD hS => ?_)
              obtain ⟨tri_c43, etri_c43⟩ : ∃ f : Nat → Int32, f = (u42.1 0) := ⟨_, rfl⟩
              obtain ⟨bes_c44, ebes_c44⟩ : ∃ f : Nat → Int32, f = (u42.1 1) := ⟨_, rfl⟩
              obtain ⟨wkd_c45, ewkd_c45⟩ : ∃ f : Nat → Int32, f = (u42.1 2) := ⟨_, rfl⟩
              obtain ⟨bst_c46, ebst_c46⟩ : ∃ f : Int32, f = (u42.1 3 0) := ⟨_, rfl⟩
              have hP : va_P (dC, dI) vwCl (wPln cI cZ cQ a min tri_c43 bes_c44 wkd_c45 cos rst bst_c46 top str gho ghs pto cro pla wal fal tel gai day mar few doo) H := by rw [etri_c43, ebes_c44, ewkd_c45, ebst_c46]; exact hP
              have hD : va_D A (wPln cI cZ cQ a min tri_c43 bes_c44 wkd_c45 cos rst bst_c46 top str gho ghs pto cro pla wal fal tel gai day mar few doo) := by rw [etri_c43, ebes_c44, ewkd_c45, ebst_c46]; exact hD
              have h41 : (rg 8 (0) (15) wkd_c45) := by (try rw [etri_c43]); (try rw [ebes_c44]); (try rw [ewkd_c45]); (try rw [ebst_c46]); exact h41
              have h41_0 := h41
              refine lv_aload_n hx hb dX3_seek_111 rfl (lv_at hl 3 rfl) ?_
              refine va_get (D := (dC, dI)) (ci := 3) (v := .ref (a 20)) (C := RX3) (T := TX3) (N := 9) hx hb hts inX3 hown hK hP 0 rfl rfl 5 (by decide) lf21 (fun _ h9 => h9) rfl dX3_seek_112 ?_
              refine lv_iload hx hb dX3_seek_115 (lv_at hl 7 rfl) ?_
              refine lv_iload hx hb dX3_seek_117 (lv_at hl 2 rfl) ?_
              have b47 : vp_in y19_4 8 := inC rfl (by omega) (by omega)
              have g48 : rg 8 (0) (15) (upd wkd_c45 y19_4.toNatClampNeg x23) := rg_upd h41_0 rfl (by omega) (by omega)
              refine va_iast hx hb hK hP hD hS 4 0 rfl rfl b47 dX3_seek_119 (fun H locs hP hD hS => ?_)
              obtain ⟨wkd_u49, ewkd_u49⟩ : ∃ f : Nat → Int32, f = upd wkd_c45 y19_4.toNatClampNeg x23 := ⟨_, rfl⟩
              have rwkd_u49 : rg 8 (0) (15) wkd_u49 := by rw [ewkd_u49]; exact g48
              have hP : va_P (dC, dI) vwCl (wPln cI cZ cQ a min tri_c43 bes_c44 wkd_u49 cos rst bst_c46 top str gho ghs pto cro pla wal fal tel gai day mar few doo) H := by rw [ewkd_u49]; exact hP
              have hD : va_D A (wPln cI cZ cQ a min tri_c43 bes_c44 wkd_u49 cos rst bst_c46 top str gho ghs pto cro pla wal fal tel gai day mar few doo) := by rw [ewkd_u49]; exact hD
              obtain ⟨z50, ez50⟩ : ∃ y : Int32, y = y19_4 + 1 := ⟨_, rfl⟩
              have iz50 : z50.toInt = y19_4.toInt + 1 := by rw [ez50]; exact addC rfl rfl (by omega) (by omega)
              refine lv_iinc (v := z50) (lv' := [(4, .int z50), (7, .int x33), (6, .int x26), (5, .int x23), (0, .ref (a 16)), (1, .int i), (2, .int n), (3, .int al)]) hx hb dX3_seek_120 hl (k := 7) rfl (by rw [ez50]; rfl) (by decide) rfl (fun ls hl => ?_)
              refine lv_goto (tgt := 19) hx hb dX3_seek_123 (by decide) ?_
              exact ih19 z50 tri_c43 bes_c44 wkd_u49 bst_c46 _ _ _ rwkd_u49 (by omega) (by omega) (by omega) hP hD hS (lv_sub hl [4, 5, 6, 7, 0] rfl)
            · refine lv_if_eq (tgt := 120) hx hb dX3_seek_33 (by decide) (fun _ => ?_) (fun c9 => absurd (by decide) c9)
              obtain ⟨z51, ez51⟩ : ∃ y : Int32, y = y19_4 + 1 := ⟨_, rfl⟩
              have iz51 : z51.toInt = y19_4.toInt + 1 := by rw [ez51]; exact addC rfl rfl (by omega) (by omega)
              refine lv_iinc (v := z51) (lv' := [(4, .int z51), (0, .ref (a 16)), (1, .int i), (2, .int n), (3, .int al)]) hx hb dX3_seek_120 hl (k := 4) rfl (by rw [ez51]; rfl) (by decide) rfl (fun ls hl => ?_)
              refine lv_goto (tgt := 19) hx hb dX3_seek_123 (by decide) ?_
              exact ih19 z51 tri_19 bes_19 wkd_19 bst_19 _ _ _ r_wkd_19 (by omega) (by omega) (by omega) hP hD hS (lv_sub hl [1, 2, 3, 4, 0] rfl)
      have kc52 : (0 : Int32).toInt = 0 := rfl
      exact L19 _ 0 tri bes wkd bst _ _ _ r_wkd (by omega) (by omega) (Nat.lt_succ_self _) hP hD hS (lv_sub hl [1, 2, 3, 4, 0] rfl)
    · have dc7 : 4 ≤ i.toInt := nltC rfl (show (4 : Int32).toInt = 4 from rfl) c7
      exfalso
      omega
set_option maxHeartbeats 4000000 in
set_option maxRecDepth 100000 in
theorem k_X3_seek_3 (l : Launch) (dC : Nat → ClassId) (dI : Nat → Nat → Nat) (cI cZ cQ : ClassId) (a : Nat → Nat) (min : Nat → Int32) (tri : Nat → Int32) (bes : Nat → Int32) (wkd : Nat → Int32) (cos : Nat → Int32) (rst : Nat → Int32) (bst : Int32) (top : Nat → Int32) (str : Nat → Int32) (gho : Nat → Int32) (ghs : Nat → Int32) (pto : Nat → Int32) (cro : Nat → Int32) (pla : Nat → Int32) (wal : Nat → Int32) (fal : Nat → Int32) (tel : Int32) (gai : Int32) (day : Int32) (mar : Nat → Int32) (few : Nat → Int32) (doo : Int32) (sz : Nat) (i : Int32) (n : Int32) (al : Int32) (r_wkd : rg 8 (0) (15) wkd) (r_top : rg 48 (-1) (23) top) (r_str : rg 48 (0) (100) str) (r_gho : rg 48 (-1) (23) gho) (r_ghs : rg 48 (0) (100) ghs) (r_cro : rg 48 (0) (6) cro) (r_pla : rg 24 (-1) (47) pla) (r_fal : rg 11 (0) (30) fal) (r_gai : 0 ≤ gai.toInt ∧ gai.toInt ≤ 100) (r_day : 0 ≤ day.toInt ∧ day.toInt ≤ 400) (r_mar : rg 24 (0) (255) mar) (q0 : 1 ≤ i.toInt) (q1 : i.toInt ≤ 4) (q2 : 1 ≤ n.toInt) (q3 : n.toInt ≤ 4) : KV l yX3_seek wsX3_seek { frames := 5, cells := 0, slots := 0, locals := 142 } (dC, dI) (TY cI cZ cQ) (wPln cI cZ cQ a min tri bes wkd cos rst bst top str gho ghs pto cro pla wal fal tel gai day mar few doo) [.ref (a 16), .int i, .int n, .int al] sz 0 0 (fun (u : US) => (rg 8 (0) (15) (u.1 2))) (fun u : US => (wPln cI cZ cQ a min (u.1 0) (u.1 1) (u.1 2) cos rst (u.1 3 0) top str gho ghs pto cro pla wal fal tel gai day mar few doo)) := by
  refine Met.ofW (cc := cX3_seek) (maxL := 8) (ret := none) (by decide) rfl ?_
  intro p e s m args below meth c s₁ B hml hv
  obtain ⟨rfl, hsz, hP, hK, hD0, hN⟩ := hv
  have hx := B.exec
  have hb := B.bytes
  have hr := B.returns
  have hts := atoms_spec (ws := wsX3_seek) B.pre
  have hown : s.vm.findClass RX3 = some m.cls := findClass_of_methodNamed B.named
  have hlocks := B.notSynchronized
  have lf15 := hts (.fieldLink RX3 15 "PalaceOfRooms$Planner" "trial" "[I") (by decide +kernel)
  have inX3 : ∀ w ∈ wsX30, w ∈ wsX3_seek := by decide +kernel
  have lf21 := hts (.fieldLink RX3 21 "PalaceOfRooms$Planner" "walkedDays" "[I") (by decide +kernel)
  have lf27 := hts (.fieldLink RX3 27 "PalaceOfRooms$Planner" "roomStrength" "[I") (by decide +kernel)
  subst hsz
  have hD := hD0.self (sz := s.heap.size)
  generalize hAe : va_A (wPln cI cZ cQ a min tri bes wkd cos rst bst top str gho ghs pto cro pla wal fal tel gai day mar few doo) s.heap.size = A at hD ⊢
  have hA : ∀ q : Nat, s.heap.size ≤ q → A q := fun q h => by rw [← hAe]; exact Or.inr h
  have hS : va_S A s.heap s.heap [] := va_S.rf
  have hl := lv_entry ([.ref (a 16), .int i, .int n, .int al]) (n := 8) (Nat.le_of_ble_eq_true rfl)
  rw [lg_entry_eq]
  generalize (lg_sl ([.ref (a 16), .int i, .int n, .int al]) ++ List.replicate (8 - (lg_sl ([.ref (a 16), .int i, .int n, .int al])).length) Slot.unset).toArray = ls at hl ⊢
  have hl : lv_has ls 8 [(0, .ref (a 16)), (1, .int i), (2, .int n), (3, .int al)] := hl
  refine lv_iload_n hx hb dX3_seek_0 rfl (lv_at hl 1 rfl) ?_
  refine lv_iload_n hx hb dX3_seek_1 rfl (lv_at hl 2 rfl) ?_
  refine lv_icmp_ge (tgt := 10) hx hb dX3_seek_2 (by decide) (fun c1 => ?_) (fun c1 => ?_)
  · have dc1 : n.toInt ≤ i.toInt := leC rfl rfl c1
    refine lv_aload_n hx hb dX3_seek_10 rfl (lv_at hl 0 rfl) ?_
    refine lv_iload_n hx hb dX3_seek_11 rfl (lv_at hl 3 rfl) ?_
    refine wvV (As := [.int al]) (rest := []) (wr := []) (w2 := (fun u : US => (wPln cI cZ cQ a min tri (u.1 1) wkd cos rst (u.1 0 0) top str gho ghs pto cro pla wal fal tel gai day mar few doo))) ⟨hx, hb, hml, hown, hts⟩ (k_X3_keepIfStronger l dC dI cI cZ cQ a min tri bes wkd cos rst bst top str gho ghs pto cro pla wal fal tel gai day mar few doo _ al r_wkd r_top r_str r_gho r_ghs r_cro r_pla r_fal r_gai r_day r_mar) (cwV 1 hts gX3_seek_X3_keepIfStronger rfl rfl rfl (by decide +kernel) ⟨Nat.le_of_ble_eq_true rfl, Nat.le_of_ble_eq_true rfl⟩) hP hD hS hA hK hN [0, 1, 2, 3, 4, 5, 6, 7, 8, 9, 10, 11, 12, 13, 14, 15, 16, 17, 18, 19, 20] [] [0, 1, 2, 3, 4, 5, 6, 7, 8, 9, 10, 11, 12, 13, 14, 15, 16, 17, 18, 19, 20] rfl rfl (by decide) (by decide) (by decide) (fun _ => rfl) (by decide) 0 3 rfl rfl rfl hl.1 rfl (Nat.le_of_ble_eq_true rfl) dX3_seek_12 ⟨Nat.le_of_ble_eq_true rfl, Nat.le_of_ble_eq_true rfl⟩ (fun u4 H locs h3 hP hD hS => ?_)
    obtain ⟨bst_c5, ebst_c5⟩ : ∃ f : Int32, f = (u4.1 0 0) := ⟨_, rfl⟩
    obtain ⟨bes_c6, ebes_c6⟩ : ∃ f : Nat → Int32, f = (u4.1 1) := ⟨_, rfl⟩
    have hP : va_P (dC, dI) vwCl (wPln cI cZ cQ a min tri bes_c6 wkd cos rst bst_c5 top str gho ghs pto cro pla wal fal tel gai day mar few doo) H := by rw [ebst_c5, ebes_c6]; exact hP
    have hD : va_D A (wPln cI cZ cQ a min tri bes_c6 wkd cos rst bst_c5 top str gho ghs pto cro pla wal fal tel gai day mar few doo) := by rw [ebst_c5, ebes_c6]; exact hD
    have h3 : True := by (try rw [ebst_c5]); (try rw [ebes_c6]); exact h3
    exact W.vret hx hb hr (fun t ht hW => ⟨⟨(uS [tri, bes_c6, wkd, (fun _ => bst_c5)] 0 (fun _ => 0)), rfl, r_wkd, by rw [ht]; exact hP, hD⟩, hS.F ht⟩) hS.2.2 dX3_seek_15
  · have dc1 : i.toInt < n.toInt := nleC rfl rfl c1
    refine lv_iload_n hx hb dX3_seek_5 rfl (lv_at hl 1 rfl) ?_
    refine lv_iconst (v := 4) hx hb dX3_seek_6 (by decide) ?_
    refine lv_icmp_lt (tgt := 16) hx hb dX3_seek_7 (by decide) (fun c7 => ?_) (fun c7 => ?_)
    · have dc7 : i.toInt < 4 := ltC rfl (show (4 : Int32).toInt = 4 from rfl) c7
      refine lv_iconst (v := 0) hx hb dX3_seek_16 (by decide) ?_
      refine lv_istore (lv' := [(4, .int 0), (0, .ref (a 16)), (1, .int i), (2, .int n), (3, .int al)]) hx hb dX3_seek_17 hl (by decide) rfl (fun ls hl => ?_)
      have L19 : ∀ (nn : Nat) (y19_4 : Int32) (tri_19 : Nat → Int32) (bes_19 : Nat → Int32) (wkd_19 : Nat → Int32) (bst_19 : Int32) (H : Heap) (locs : List Loc) (ls : Array Slot), (rg 8 (0) (15) wkd_19) → (0 ≤ (y19_4.toInt)) → ((y19_4.toInt) ≤ 8) → (8 - (y19_4.toInt)).toNat < nn → va_P (dC, dI) vwCl (wPln cI cZ cQ a min tri_19 bes_19 wkd_19 cos rst bst_19 top str gho ghs pto cro pla wal fal tel gai day mar few doo) H → va_D A (wPln cI cZ cQ a min tri_19 bes_19 wkd_19 cos rst bst_19 top str gho ghs pto cro pla wal fal tel gai day mar few doo) → va_S A s.heap H locs → lv_has ls 8 [(0, .ref (a 16)), (1, .int i), (2, .int n), (3, .int al), (4, .int y19_4)] → W p l e (headSpec wsX3_seek { frames := 5, cells := 0, slots := 0, locals := 142 }).room s m ([.ref (a 16), .int i, .int n, .int al] : List Value).toArray below meth c H locs 0 0 (MQ below (va_Qv (fun (u : US) => (rg 8 (0) (15) (u.1 2))) (Bw (dC, dI) A (fun u : US => (wPln cI cZ cQ a min (u.1 0) (u.1 1) (u.1 2) cos rst (u.1 3 0) top str gho ghs pto cro pla wal fal tel gai day mar few doo))) A) ([.ref (a 16), .int i, .int n, .int al] : List Value).toArray s 0 0 A) (F0 m 19 ls []) := by
        intro nn
        induction nn with
        | zero =>
          intro y19_4 tri_19 bes_19 wkd_19 bst_19 H locs ls r_wkd_19 i19_0 i19_1 hm
          exact absurd hm (Nat.not_lt_zero _)
        | succ nn ih19 =>
          intro y19_4 tri_19 bes_19 wkd_19 bst_19 H locs ls r_wkd_19 i19_0 i19_1 hm hP hD hS hl
          refine lv_iload hx hb dX3_seek_19 (lv_at hl 4 rfl) ?_
          refine lv_bipush (v := 8) hx hb dX3_seek_21 (by decide) ?_
          refine lv_icmp_ge (tgt := 126) hx hb dX3_seek_23 (by decide) (fun c8 => ?_) (fun c8 => ?_)
          · have dc8 : 8 ≤ y19_4.toInt := leC (show (8 : Int32).toInt = 8 from rfl) rfl c8
            refine lv_aload_n hx hb dX3_seek_126 rfl (lv_at hl 0 rfl) ?_
            refine va_get (D := (dC, dI)) (ci := 3) (v := .ref (a 18)) (C := RX3) (T := TX3) (N := 9) hx hb hts inX3 hown hK hP 0 rfl rfl 3 (by decide) lf15 (fun _ h9 => h9) rfl dX3_seek_127 ?_
            refine lv_iload_n hx hb dX3_seek_130 rfl (lv_at hl 1 rfl) ?_
            refine lv_bipush (v := 8) hx hb dX3_seek_131 (by decide) ?_
            have b9 : vp_in i 4 := inC rfl (by omega) (by omega)
            refine va_iast hx hb hK hP hD hS 2 0 rfl rfl b9 dX3_seek_133 (fun H locs hP hD hS => ?_)
            obtain ⟨tri_u10, etri_u10⟩ : ∃ f : Nat → Int32, f = upd tri_19 i.toNatClampNeg 8 := ⟨_, rfl⟩
            have hP : va_P (dC, dI) vwCl (wPln cI cZ cQ a min tri_u10 bes_19 wkd_19 cos rst bst_19 top str gho ghs pto cro pla wal fal tel gai day mar few doo) H := by rw [etri_u10]; exact hP
            have hD : va_D A (wPln cI cZ cQ a min tri_u10 bes_19 wkd_19 cos rst bst_19 top str gho ghs pto cro pla wal fal tel gai day mar few doo) := by rw [etri_u10]; exact hD
            refine lv_aload_n hx hb dX3_seek_134 rfl (lv_at hl 0 rfl) ?_
            refine lv_iload_n hx hb dX3_seek_135 rfl (lv_at hl 1 rfl) ?_
            refine lv_iconst (v := 1) hx hb dX3_seek_136 (by decide) ?_
            refine lv_iadd hx hb dX3_seek_137 ?_
            have f11 : (i + 1).toInt = (i.toInt) + (1) := addC rfl (show (1 : Int32).toInt = 1 from rfl) (by omega) (by omega)
            refine lv_iload_n hx hb dX3_seek_138 rfl (lv_at hl 2 rfl) ?_
            refine lv_iload_n hx hb dX3_seek_139 rfl (lv_at hl 3 rfl) ?_
            refine wvV (As := [.int (i + 1), .int n, .int al]) (rest := []) (wr := []) (w2 := (fun u : US => (wPln cI cZ cQ a min (u.1 0) (u.1 1) (u.1 2) cos rst (u.1 3 0) top str gho ghs pto cro pla wal fal tel gai day mar few doo))) ⟨hx, hb, hml, hown, hts⟩ (k_X3_seek_2 l dC dI cI cZ cQ a min tri_u10 bes_19 wkd_19 cos rst bst_19 top str gho ghs pto cro pla wal fal tel gai day mar few doo _ (i + 1) n al r_wkd_19 r_top r_str r_gho r_ghs r_cro r_pla r_fal r_gai r_day r_mar (by omega) (by omega) (by omega) (by omega)) (cwV 3 hts gX3_seek_X3_seek rfl rfl rfl (by decide +kernel) ⟨Nat.le_of_ble_eq_true rfl, Nat.le_of_ble_eq_true rfl⟩) hP hD hS hA hK hN [0, 1, 2, 3, 4, 5, 6, 7, 8, 9, 10, 11, 12, 13, 14, 15, 16, 17, 18, 19, 20] [] [0, 1, 2, 3, 4, 5, 6, 7, 8, 9, 10, 11, 12, 13, 14, 15, 16, 17, 18, 19, 20] rfl rfl (by decide) (by decide) (by decide) (fun _ => rfl) (by decide) 0 3 rfl rfl rfl hl.1 rfl (Nat.le_of_ble_eq_true rfl) dX3_seek_140 ⟨Nat.le_of_ble_eq_true rfl, Nat.le_of_ble_eq_true rfl⟩ (fun u14 H locs h13 hP hD hS => ?_)
            obtain ⟨tri_c15, etri_c15⟩ : ∃ f : Nat → Int32, f = (u14.1 0) := ⟨_, rfl⟩
            obtain ⟨bes_c16, ebes_c16⟩ : ∃ f : Nat → Int32, f = (u14.1 1) := ⟨_, rfl⟩
            obtain ⟨wkd_c17, ewkd_c17⟩ : ∃ f : Nat → Int32, f = (u14.1 2) := ⟨_, rfl⟩
            obtain ⟨bst_c18, ebst_c18⟩ : ∃ f : Int32, f = (u14.1 3 0) := ⟨_, rfl⟩
            have hP : va_P (dC, dI) vwCl (wPln cI cZ cQ a min tri_c15 bes_c16 wkd_c17 cos rst bst_c18 top str gho ghs pto cro pla wal fal tel gai day mar few doo) H := by rw [etri_c15, ebes_c16, ewkd_c17, ebst_c18]; exact hP
            have hD : va_D A (wPln cI cZ cQ a min tri_c15 bes_c16 wkd_c17 cos rst bst_c18 top str gho ghs pto cro pla wal fal tel gai day mar few doo) := by rw [etri_c15, ebes_c16, ewkd_c17, ebst_c18]; exact hD
            have h13 : (rg 8 (0) (15) wkd_c17) := by (try rw [etri_c15]); (try rw [ebes_c16]); (try rw [ewkd_c17]); (try rw [ebst_c18]); exact h13
            have h13_0 := h13
            exact W.vret hx hb hr (fun t ht hW => ⟨⟨(uS [tri_c15, bes_c16, wkd_c17, (fun _ => bst_c18)] 0 (fun _ => 0)), rfl, h13_0, by rw [ht]; exact hP, hD⟩, hS.F ht⟩) hS.2.2 dX3_seek_143
          · have dc8 : y19_4.toInt < 8 := nleC (show (8 : Int32).toInt = 8 from rfl) rfl c8
            refine lv_aload_n hx hb dX3_seek_26 rfl (lv_at hl 0 rfl) ?_
            refine lv_iload hx hb dX3_seek_27 (lv_at hl 4 rfl) ?_
            refine lv_iload_n hx hb dX3_seek_29 rfl (lv_at hl 1 rfl) ?_
            refine rdV (As := [.int y19_4, .int i]) (rest := []) ⟨hx, hb, hml, hown, hts⟩ (k_X3_walkable l dC dI cI cZ cQ a min tri_19 bes_19 wkd_19 cos rst bst_19 top str gho ghs pto cro pla wal fal tel gai day mar few doo y19_4 i r_wkd_19 r_top r_str r_gho r_ghs r_cro r_pla r_fal r_gai r_day r_mar (by omega) (by omega) (by omega) (by omega)) (cwV 2 hts gX3_seek_X3_walkable rfl rfl rfl (by decide +kernel) ⟨Nat.le_of_ble_eq_true rfl, Nat.le_of_ble_eq_true rfl⟩) hP hK hN [0, 1, 2, 3, 4, 5, 6, 7, 8, 9, 10, 11, 12, 13, 14, 15, 16, 17, 18, 19, 20] rfl 0 3 rfl rfl rfl hl.1 rfl (Nat.le_of_ble_eq_true rfl) dX3_seek_30 ⟨Nat.le_of_ble_eq_true rfl, Nat.le_of_ble_eq_true rfl⟩ (fun r19 h20 => ?_)
            have h20 : ((((r19 = 1)) ∨ ((r19 = 0)))) := h20
            rcases h20 with (rfl | rfl)
            · refine lv_if_eq (tgt := 120) hx hb dX3_seek_33 (by decide) (fun c9 => absurd c9 (by decide)) (fun _ => ?_)
              refine lv_aload_n hx hb dX3_seek_36 rfl (lv_at hl 0 rfl) ?_
              refine va_get (D := (dC, dI)) (ci := 3) (v := .ref (a 20)) (C := RX3) (T := TX3) (N := 9) hx hb hts inX3 hown hK hP 0 rfl rfl 5 (by decide) lf21 (fun _ h9 => h9) rfl dX3_seek_37 ?_
              refine lv_iload hx hb dX3_seek_40 (lv_at hl 4 rfl) ?_
              have b21 : vp_in y19_4 8 := inC rfl (by omega) (by omega)
              refine va_iald hx hb hK hP 4 0 rfl rfl b21 dX3_seek_42 ?_
              have g22 : 0 ≤ (wkd_19 y19_4.toNatClampNeg).toInt ∧ (wkd_19 y19_4.toNatClampNeg).toInt ≤ 15 := rg_at r_wkd_19 b21
              refine lv_topi (fun x23 ex23 => ?_)
              have ix23 : x23.toInt = (wkd_19 y19_4.toNatClampNeg).toInt := by rw [ex23]
              refine lv_istore (lv' := [(5, .int x23), (0, .ref (a 16)), (1, .int i), (2, .int n), (3, .int al), (4, .int y19_4)]) hx hb dX3_seek_43 hl (by decide) rfl (fun ls hl => ?_)
              refine lv_iload hx hb dX3_seek_45 (lv_at hl 0 rfl) ?_
              refine lv_iconst (v := 1) hx hb dX3_seek_47 (by decide) ?_
              refine lv_iload_n hx hb dX3_seek_48 rfl (lv_at hl 2 rfl) ?_
              refine lv_ishl hx hb dX3_seek_49 ?_
              have f24 : 1 ≤ ((1 : Int32) <<< (i &&& 31)).toInt ∧ ((1 : Int32) <<< (i &&& 31)).toInt ≤ 8 := shl1 rfl (by omega) 3 (by omega) (by decide)
              refine lv_ior hx hb dX3_seek_50 ?_
              have f25 : 0 ≤ (x23 ||| ((1 : Int32) <<< (i &&& 31))).toInt ∧ (x23 ||| ((1 : Int32) <<< (i &&& 31))).toInt ≤ 15 := orB rfl rfl 4 (by omega) (by omega) (by omega) (by omega) (by decide)
              refine lv_topi (fun x26 ex26 => ?_)
              have ix26 : x26.toInt = (x23 ||| ((1 : Int32) <<< (i &&& 31))).toInt := by rw [ex26]
              refine lv_istore (lv' := [(6, .int x26), (5, .int x23), (0, .ref (a 16)), (1, .int i), (2, .int n), (3, .int al), (4, .int y19_4)]) hx hb dX3_seek_51 hl (by decide) rfl (fun ls hl => ?_)
              refine lv_aload_n hx hb dX3_seek_53 rfl (lv_at hl 2 rfl) ?_
              refine va_get (D := (dC, dI)) (ci := 3) (v := .ref (a 22)) (C := RX3) (T := TX3) (N := 9) hx hb hts inX3 hown hK hP 0 rfl rfl 7 (by decide) lf27 (fun _ h9 => h9) rfl dX3_seek_54 ?_
              refine lv_iload hx hb dX3_seek_57 (lv_at hl 6 rfl) ?_
              refine lv_bipush (v := 16) hx hb dX3_seek_59 (by decide) ?_
              refine lv_imul hx hb dX3_seek_61 ?_
              have f27 : (y19_4 * 16).toInt = (y19_4.toInt) * (16) := mulC rfl (show (16 : Int32).toInt = 16 from rfl) (by omega) (by omega)
              refine lv_iload hx hb dX3_seek_62 (lv_at hl 0 rfl) ?_
              refine lv_iadd hx hb dX3_seek_64 ?_
              have f28 : ((y19_4 * 16) + x26).toInt = ((y19_4.toInt) * (16)) + (x26.toInt) := addC f27 rfl (by omega) (by omega)
              have b29 : vp_in ((y19_4 * 16) + x26) 128 := inC f28 (by omega) (by omega)
              refine va_iald hx hb hK hP 6 0 rfl rfl b29 dX3_seek_65 ?_
              refine lv_aload_n hx hb dX3_seek_66 rfl (lv_at hl 2 rfl) ?_
              refine va_get (D := (dC, dI)) (ci := 3) (v := .ref (a 22)) (C := RX3) (T := TX3) (N := 9) hx hb hts inX3 hown hK hP 0 rfl rfl 7 (by decide) lf27 (fun _ h9 => h9) rfl dX3_seek_67 ?_
              refine lv_iload hx hb dX3_seek_70 (lv_at hl 6 rfl) ?_
              refine lv_bipush (v := 16) hx hb dX3_seek_72 (by decide) ?_
              refine lv_imul hx hb dX3_seek_74 ?_
              have f30 : (y19_4 * 16).toInt = (y19_4.toInt) * (16) := mulC rfl (show (16 : Int32).toInt = 16 from rfl) (by omega) (by omega)
              refine lv_iload hx hb dX3_seek_75 (lv_at hl 1 rfl) ?_
              refine lv_iadd hx hb dX3_seek_77 ?_
              have f31 : ((y19_4 * 16) + x23).toInt = ((y19_4.toInt) * (16)) + (x23.toInt) := addC f30 rfl (by omega) (by omega)
              have b32 : vp_in ((y19_4 * 16) + x23) 128 := inC f31 (by omega) (by omega)
              refine va_iald hx hb hK hP 6 0 rfl rfl b32 dX3_seek_78 ?_
              refine lv_isub hx hb dX3_seek_79 ?_
              refine lv_topi (fun x33 ex33 => ?_)
              have ix33 : x33.toInt = ((rst ((y19_4 * 16) + x26).toNatClampNeg) - (rst ((y19_4 * 16) + x23).toNatClampNeg)).toInt := by rw [ex33]
              refine lv_istore (lv' := [(7, .int x33), (6, .int x26), (5, .int x23), (0, .ref (a 16)), (1, .int i), (2, .int n), (3, .int al), (4, .int y19_4)]) hx hb dX3_seek_80 hl (by decide) rfl (fun ls hl => ?_)
              refine lv_aload_n hx hb dX3_seek_82 rfl (lv_at hl 3 rfl) ?_
              refine va_get (D := (dC, dI)) (ci := 3) (v := .ref (a 18)) (C := RX3) (T := TX3) (N := 9) hx hb hts inX3 hown hK hP 0 rfl rfl 3 (by decide) lf15 (fun _ h9 => h9) rfl dX3_seek_83 ?_
              refine lv_iload_n hx hb dX3_seek_86 rfl (lv_at hl 4 rfl) ?_
              refine lv_iload hx hb dX3_seek_87 (lv_at hl 7 rfl) ?_
              have b34 : vp_in i 4 := inC rfl (by omega) (by omega)
              refine va_iast hx hb hK hP hD hS 2 0 rfl rfl b34 dX3_seek_89 (fun H locs hP hD hS => ?_)
              obtain ⟨tri_u35, etri_u35⟩ : ∃ f : Nat → Int32, f = upd tri_19 i.toNatClampNeg y19_4 := ⟨_, rfl⟩
              have hP : va_P (dC, dI) vwCl (wPln cI cZ cQ a min tri_u35 bes_19 wkd_19 cos rst bst_19 top str gho ghs pto cro pla wal fal tel gai day mar few doo) H := by rw [etri_u35]; exact hP
              have hD : va_D A (wPln cI cZ cQ a min tri_u35 bes_19 wkd_19 cos rst bst_19 top str gho ghs pto cro pla wal fal tel gai day mar few doo) := by rw [etri_u35]; exact hD
              refine lv_aload_n hx hb dX3_seek_90 rfl (lv_at hl 3 rfl) ?_
              refine va_get (D := (dC, dI)) (ci := 3) (v := .ref (a 20)) (C := RX3) (T := TX3) (N := 9) hx hb hts inX3 hown hK hP 0 rfl rfl 5 (by decide) lf21 (fun _ h9 => h9) rfl dX3_seek_91 ?_
              refine lv_iload hx hb dX3_seek_94 (lv_at hl 7 rfl) ?_
              refine lv_iload hx hb dX3_seek_96 (lv_at hl 1 rfl) ?_
              have b36 : vp_in y19_4 8 := inC rfl (by omega) (by omega)
              have g37 : rg 8 (0) (15) (upd wkd_19 y19_4.toNatClampNeg x26) := rg_upd r_wkd_19 rfl (by omega) (by omega)
              refine va_iast hx hb hK hP hD hS 4 0 rfl rfl b36 dX3_seek_98 (fun H locs hP hD hS => ?_)
              obtain ⟨wkd_u38, ewkd_u38⟩ : ∃ f : Nat → Int32, f = upd wkd_19 y19_4.toNatClampNeg x26 := ⟨_, rfl⟩
              have rwkd_u38 : rg 8 (0) (15) wkd_u38 := by rw [ewkd_u38]; exact g37
              have hP : va_P (dC, dI) vwCl (wPln cI cZ cQ a min tri_u35 bes_19 wkd_u38 cos rst bst_19 top str gho ghs pto cro pla wal fal tel gai day mar few doo) H := by rw [ewkd_u38]; exact hP
              have hD : va_D A (wPln cI cZ cQ a min tri_u35 bes_19 wkd_u38 cos rst bst_19 top str gho ghs pto cro pla wal fal tel gai day mar few doo) := by rw [ewkd_u38]; exact hD
              refine lv_aload_n hx hb dX3_seek_99 rfl (lv_at hl 3 rfl) ?_
              refine lv_iload_n hx hb dX3_seek_100 rfl (lv_at hl 4 rfl) ?_
              refine lv_iconst (v := 1) hx hb dX3_seek_101 (by decide) ?_
              refine lv_iadd hx hb dX3_seek_102 ?_
              have f39 : (i + 1).toInt = (i.toInt) + (1) := addC rfl (show (1 : Int32).toInt = 1 from rfl) (by omega) (by omega)
              refine lv_iload_n hx hb dX3_seek_103 rfl (lv_at hl 5 rfl) ?_
              refine lv_iload_n hx hb dX3_seek_104 rfl (lv_at hl 6 rfl) ?_
              refine lv_iload hx hb dX3_seek_105 (lv_at hl 0 rfl) ?_
              refine lv_iadd hx hb dX3_seek_107 ?_
              refine wvV (As := [.int (i + 1), .int n, .int (al + x33)]) (rest := []) (wr := []) (w2 := (fun u : US => (wPln cI cZ cQ a min (u.1 0) (u.1 1) (u.1 2) cos rst (u.1 3 0) top str gho ghs pto cro pla wal fal tel gai day mar few doo))) ⟨hx, hb, hml, hown, hts⟩ (k_X3_seek_2 l dC dI cI cZ cQ a min tri_u35 bes_19 wkd_u38 cos rst bst_19 top str gho ghs pto cro pla wal fal tel gai day mar few doo _ (i + 1) n (al + x33) rwkd_u38 r_top r_str r_gho r_ghs r_cro r_pla r_fal r_gai r_day r_mar (by omega) (by omega) (by omega) (by omega)) (cwV 3 hts gX3_seek_X3_seek rfl rfl rfl (by decide +kernel) ⟨Nat.le_of_ble_eq_true rfl, Nat.le_of_ble_eq_true rfl⟩) hP hD hS hA hK hN [0, 1, 2, 3, 4, 5, 6, 7, 8, 9, 10, 11, 12, 13, 14, 15, 16, 17, 18, 19, 20] [] [0, 1, 2, 3, 4, 5, 6, 7, 8, 9, 10, 11, 12, 13, 14, 15, 16, 17, 18, 19, 20] rfl rfl (by decide) (by decide) (by decide) (fun _ => rfl) (by decide) 0 3 rfl rfl rfl hl.1 rfl (Nat.le_of_ble_eq_true rfl) dX3_seek_108 ⟨Nat.le_of_ble_eq_true rfl, Nat.le_of_ble_eq_true rfl⟩ (fun u42 H locs h41 hP hD hS => ?_)
              obtain ⟨tri_c43, etri_c43⟩ : ∃ f : Nat → Int32, f = (u42.1 0) := ⟨_, rfl⟩
              obtain ⟨bes_c44, ebes_c44⟩ : ∃ f : Nat → Int32, f = (u42.1 1) := ⟨_, rfl⟩
              obtain ⟨wkd_c45, ewkd_c45⟩ : ∃ f : Nat → Int32, f = (u42.1 2) := ⟨_, rfl⟩
              obtain ⟨bst_c46, ebst_c46⟩ : ∃ f : Int32, f = (u42.1 3 0) := ⟨_, rfl⟩
              have hP : va_P (dC, dI) vwCl (wPln cI cZ cQ a min tri_c43 bes_c44 wkd_c45 cos rst bst_c46 top str gho ghs pto cro pla wal fal tel gai day mar few doo) H := by rw [etri_c43, ebes_c44, ewkd_c45, ebst_c46]; exact hP
              have hD : va_D A (wPln cI cZ cQ a min tri_c43 bes_c44 wkd_c45 cos rst bst_c46 top str gho ghs pto cro pla wal fal tel gai day mar few doo) := by rw [etri_c43, ebes_c44, ewkd_c45, ebst_c46]; exact hD
              have h41 : (rg 8 (0) (15) wkd_c45) := by (try rw [etri_c43]); (try rw [ebes_c44]); (try rw [ewkd_c45]); (try rw [ebst_c46]); exact h41
              have h41_0 := h41
              refine lv_aload_n hx hb dX3_seek_111 rfl (lv_at hl 3 rfl) ?_
              refine va_get (D := (dC, dI)) (ci := 3) (v := .ref (a 20)) (C := RX3) (T := TX3) (N := 9) hx hb hts inX3 hown hK hP 0 rfl rfl 5 (by decide) lf21 (fun _ h9 => h9) rfl dX3_seek_112 ?_
              refine lv_iload hx hb dX3_seek_115 (lv_at hl 7 rfl) ?_
              refine lv_iload hx hb dX3_seek_117 (lv_at hl 2 rfl) ?_
              have b47 : vp_in y19_4 8 := inC rfl (by omega) (by omega)
              have g48 : rg 8 (0) (15) (upd wkd_c45 y19_4.toNatClampNeg x23) := rg_upd h41_0 rfl (by omega) (by omega)
              refine va_iast hx hb hK hP hD hS 4 0 rfl rfl b47 dX3_seek_119 (fun H locs hP hD hS => ?_)
              obtain ⟨wkd_u49, ewkd_u49⟩ : ∃ f : Nat → Int32, f = upd wkd_c45 y19_4.toNatClampNeg x23 := ⟨_, rfl⟩
              have rwkd_u49 : rg 8 (0) (15) wkd_u49 := by rw [ewkd_u49]; exact g48
              have hP : va_P (dC, dI) vwCl (wPln cI cZ cQ a min tri_c43 bes_c44 wkd_u49 cos rst bst_c46 top str gho ghs pto cro pla wal fal tel gai day mar few doo) H := by rw [ewkd_u49]; exact hP
              have hD : va_D A (wPln cI cZ cQ a min tri_c43 bes_c44 wkd_u49 cos rst bst_c46 top str gho ghs pto cro pla wal fal tel gai day mar few doo) := by rw [ewkd_u49]; exact hD
              obtain ⟨z50, ez50⟩ : ∃ y : Int32, y = y19_4 + 1 := ⟨_, rfl⟩
              have iz50 : z50.toInt = y19_4.toInt + 1 := by rw [ez50]; exact addC rfl rfl (by omega) (by omega)
              refine lv_iinc (v := z50) (lv' := [(4, .int z50), (7, .int x33), (6, .int x26), (5, .int x23), (0, .ref (a 16)), (1, .int i), (2, .int n), (3, .int al)]) hx hb dX3_seek_120 hl (k := 7) rfl (by rw [ez50]; rfl) (by decide) rfl (fun ls hl => ?_)
              refine lv_goto (tgt := 19) hx hb dX3_seek_123 (by decide) ?_
              exact ih19 z50 tri_c43 bes_c44 wkd_u49 bst_c46 _ _ _ rwkd_u49 (by omega) (by omega) (by omega) hP hD hS (lv_sub hl [4, 5, 6, 7, 0] rfl)
            · refine lv_if_eq (tgt := 120) hx hb dX3_seek_33 (by decide) (fun _ => ?_) (fun c9 => absurd (by decide) c9)
              obtain ⟨z51, ez51⟩ : ∃ y : Int32, y = y19_4 + 1 := ⟨_, rfl⟩
              have iz51 : z51.toInt = y19_4.toInt + 1 := by rw [ez51]; exact addC rfl rfl (by omega) (by omega)
              refine lv_iinc (v := z51) (lv' := [(4, .int z51), (0, .ref (a 16)), (1, .int i), (2, .int n), (3, .int al)]) hx hb dX3_seek_120 hl (k := 4) rfl (by rw [ez51]; rfl) (by decide) rfl (fun ls hl => ?_)
              refine lv_goto (tgt := 19) hx hb dX3_seek_123 (by decide) ?_
              exact ih19 z51 tri_19 bes_19 wkd_19 bst_19 _ _ _ r_wkd_19 (by omega) (by omega) (by omega) hP hD hS (lv_sub hl [1, 2, 3, 4, 0] rfl)
      have kc52 : (0 : Int32).toInt = 0 := rfl
      exact L19 _ 0 tri bes wkd bst _ _ _ r_wkd (by omega) (by omega) (Nat.lt_succ_self _) hP hD hS (lv_sub hl [1, 2, 3, 4, 0] rfl)
    · have dc7 : 4 ≤ i.toInt := nltC rfl (show (4 : Int32).toInt = 4 from rfl) c7
      exfalso
      omega
set_option maxHeartbeats 4000000 in
set_option maxRecDepth 100000 in
theorem k_X3_seek_4 (l : Launch) (dC : Nat → ClassId) (dI : Nat → Nat → Nat) (cI cZ cQ : ClassId) (a : Nat → Nat) (min : Nat → Int32) (tri : Nat → Int32) (bes : Nat → Int32) (wkd : Nat → Int32) (cos : Nat → Int32) (rst : Nat → Int32) (bst : Int32) (top : Nat → Int32) (str : Nat → Int32) (gho : Nat → Int32) (ghs : Nat → Int32) (pto : Nat → Int32) (cro : Nat → Int32) (pla : Nat → Int32) (wal : Nat → Int32) (fal : Nat → Int32) (tel : Int32) (gai : Int32) (day : Int32) (mar : Nat → Int32) (few : Nat → Int32) (doo : Int32) (sz : Nat) (i : Int32) (n : Int32) (al : Int32) (r_wkd : rg 8 (0) (15) wkd) (r_top : rg 48 (-1) (23) top) (r_str : rg 48 (0) (100) str) (r_gho : rg 48 (-1) (23) gho) (r_ghs : rg 48 (0) (100) ghs) (r_cro : rg 48 (0) (6) cro) (r_pla : rg 24 (-1) (47) pla) (r_fal : rg 11 (0) (30) fal) (r_gai : 0 ≤ gai.toInt ∧ gai.toInt ≤ 100) (r_day : 0 ≤ day.toInt ∧ day.toInt ≤ 400) (r_mar : rg 24 (0) (255) mar) (q0 : 0 ≤ i.toInt) (q1 : i.toInt ≤ 4) (q2 : 1 ≤ n.toInt) (q3 : n.toInt ≤ 4) : KV l yX3_seek wsX3_seek { frames := 6, cells := 0, slots := 0, locals := 169 } (dC, dI) (TY cI cZ cQ) (wPln cI cZ cQ a min tri bes wkd cos rst bst top str gho ghs pto cro pla wal fal tel gai day mar few doo) [.ref (a 16), .int i, .int n, .int al] sz 0 0 (fun (u : US) => (rg 8 (0) (15) (u.1 2))) (fun u : US => (wPln cI cZ cQ a min (u.1 0) (u.1 1) (u.1 2) cos rst (u.1 3 0) top str gho ghs pto cro pla wal fal tel gai day mar few doo)) := by
  refine Met.ofW (cc := cX3_seek) (maxL := 8) (ret := none) (by decide) rfl ?_
  intro p e s m args below meth c s₁ B hml hv
  obtain ⟨rfl, hsz, hP, hK, hD0, hN⟩ := hv
  have hx := B.exec
  have hb := B.bytes
  have hr := B.returns
  have hts := atoms_spec (ws := wsX3_seek) B.pre
  have hown : s.vm.findClass RX3 = some m.cls := findClass_of_methodNamed B.named
  have hlocks := B.notSynchronized
  have lf15 := hts (.fieldLink RX3 15 "PalaceOfRooms$Planner" "trial" "[I") (by decide +kernel)
  have inX3 : ∀ w ∈ wsX30, w ∈ wsX3_seek := by decide +kernel
  have lf21 := hts (.fieldLink RX3 21 "PalaceOfRooms$Planner" "walkedDays" "[I") (by decide +kernel)
  have lf27 := hts (.fieldLink RX3 27 "PalaceOfRooms$Planner" "roomStrength" "[I") (by decide +kernel)
  subst hsz
  have hD := hD0.self (sz := s.heap.size)
  generalize hAe : va_A (wPln cI cZ cQ a min tri bes wkd cos rst bst top str gho ghs pto cro pla wal fal tel gai day mar few doo) s.heap.size = A at hD ⊢
  have hA : ∀ q : Nat, s.heap.size ≤ q → A q := fun q h => by rw [← hAe]; exact Or.inr h
  have hS : va_S A s.heap s.heap [] := va_S.rf
  have hl := lv_entry ([.ref (a 16), .int i, .int n, .int al]) (n := 8) (Nat.le_of_ble_eq_true rfl)
  rw [lg_entry_eq]
  generalize (lg_sl ([.ref (a 16), .int i, .int n, .int al]) ++ List.replicate (8 - (lg_sl ([.ref (a 16), .int i, .int n, .int al])).length) Slot.unset).toArray = ls at hl ⊢
  have hl : lv_has ls 8 [(0, .ref (a 16)), (1, .int i), (2, .int n), (3, .int al)] := hl
  refine lv_iload_n hx hb dX3_seek_0 rfl (lv_at hl 1 rfl) ?_
  refine lv_iload_n hx hb dX3_seek_1 rfl (lv_at hl 2 rfl) ?_
  refine lv_icmp_ge (tgt := 10) hx hb dX3_seek_2 (by decide) (fun c1 => ?_) (fun c1 => ?_)
  · have dc1 : n.toInt ≤ i.toInt := leC rfl rfl c1
    refine lv_aload_n hx hb dX3_seek_10 rfl (lv_at hl 0 rfl) ?_
    refine lv_iload_n hx hb dX3_seek_11 rfl (lv_at hl 3 rfl) ?_
    refine wvV (As := [.int al]) (rest := []) (wr := []) (w2 := (fun u : US => (wPln cI cZ cQ a min tri (u.1 1) wkd cos rst (u.1 0 0) top str gho ghs pto cro pla wal fal tel gai day mar few doo))) ⟨hx, hb, hml, hown, hts⟩ (k_X3_keepIfStronger l dC dI cI cZ cQ a min tri bes wkd cos rst bst top str gho ghs pto cro pla wal fal tel gai day mar few doo _ al r_wkd r_top r_str r_gho r_ghs r_cro r_pla r_fal r_gai r_day r_mar) (cwV 1 hts gX3_seek_X3_keepIfStronger rfl rfl rfl (by decide +kernel) ⟨Nat.le_of_ble_eq_true rfl, Nat.le_of_ble_eq_true rfl⟩) hP hD hS hA hK hN [0, 1, 2, 3, 4, 5, 6, 7, 8, 9, 10, 11, 12, 13, 14, 15, 16, 17, 18, 19, 20] [] [0, 1, 2, 3, 4, 5, 6, 7, 8, 9, 10, 11, 12, 13, 14, 15, 16, 17, 18, 19, 20] rfl rfl (by decide) (by decide) (by decide) (fun _ => rfl) (by decide) 0 3 rfl rfl rfl hl.1 rfl (Nat.le_of_ble_eq_true rfl) dX3_seek_12 ⟨Nat.le_of_ble_eq_true rfl, Nat.le_of_ble_eq_true rfl⟩ (fun u4 H locs h3 hP hD hS => ?_)
    obtain ⟨bst_c5, ebst_c5⟩ : ∃ f : Int32, f = (u4.1 0 0) := ⟨_, rfl⟩
    obtain ⟨bes_c6, ebes_c6⟩ : ∃ f : Nat → Int32, f = (u4.1 1) := ⟨_, rfl⟩
    have hP : va_P (dC, dI) vwCl (wPln cI cZ cQ a min tri bes_c6 wkd cos rst bst_c5 top str gho ghs pto cro pla wal fal tel gai day mar few doo) H := by rw [ebst_c5, ebes_c6]; exact hP
    have hD : va_D A (wPln cI cZ cQ a min tri bes_c6 wkd cos rst bst_c5 top str gho ghs pto cro pla wal fal tel gai day mar few doo) := by rw [ebst_c5, ebes_c6]; exact hD
    have h3 : True := by (try rw [ebst_c5]); (try rw [ebes_c6]); exact h3
    exact W.vret hx hb hr (fun t ht hW => ⟨⟨(uS [tri, bes_c6, wkd, (fun _ => bst_c5)] 0 (fun _ => 0)), rfl, r_wkd, by rw [ht]; exact hP, hD⟩, hS.F ht⟩) hS.2.2 dX3_seek_15
  · have dc1 : i.toInt < n.toInt := nleC rfl rfl c1
    refine lv_iload_n hx hb dX3_seek_5 rfl (lv_at hl 1 rfl) ?_
    refine lv_iconst (v := 4) hx hb dX3_seek_6 (by decide) ?_
    refine lv_icmp_lt (tgt := 16) hx hb dX3_seek_7 (by decide) (fun c7 => ?_) (fun c7 => ?_)
    · have dc7 : i.toInt < 4 := ltC rfl (show (4 : Int32).toInt = 4 from rfl) c7
      refine lv_iconst (v := 0) hx hb dX3_seek_16 (by decide) ?_
      refine lv_istore (lv' := [(4, .int 0), (0, .ref (a 16)), (1, .int i), (2, .int n), (3, .int al)]) hx hb dX3_seek_17 hl (by decide) rfl (fun ls hl => ?_)
      have L19 : ∀ (nn : Nat) (y19_4 : Int32) (tri_19 : Nat → Int32) (bes_19 : Nat → Int32) (wkd_19 : Nat → Int32) (bst_19 : Int32) (H : Heap) (locs : List Loc) (ls : Array Slot), (rg 8 (0) (15) wkd_19) → (0 ≤ (y19_4.toInt)) → ((y19_4.toInt) ≤ 8) → (8 - (y19_4.toInt)).toNat < nn → va_P (dC, dI) vwCl (wPln cI cZ cQ a min tri_19 bes_19 wkd_19 cos rst bst_19 top str gho ghs pto cro pla wal fal tel gai day mar few doo) H → va_D A (wPln cI cZ cQ a min tri_19 bes_19 wkd_19 cos rst bst_19 top str gho ghs pto cro pla wal fal tel gai day mar few doo) → va_S A s.heap H locs → lv_has ls 8 [(0, .ref (a 16)), (1, .int i), (2, .int n), (3, .int al), (4, .int y19_4)] → W p l e (headSpec wsX3_seek { frames := 6, cells := 0, slots := 0, locals := 169 }).room s m ([.ref (a 16), .int i, .int n, .int al] : List Value).toArray below meth c H locs 0 0 (MQ below (va_Qv (fun (u : US) => (rg 8 (0) (15) (u.1 2))) (Bw (dC, dI) A (fun u : US => (wPln cI cZ cQ a min (u.1 0) (u.1 1) (u.1 2) cos rst (u.1 3 0) top str gho ghs pto cro pla wal fal tel gai day mar few doo))) A) ([.ref (a 16), .int i, .int n, .int al] : List Value).toArray s 0 0 A) (F0 m 19 ls []) := by
        intro nn
        induction nn with
        | zero =>
          intro y19_4 tri_19 bes_19 wkd_19 bst_19 H locs ls r_wkd_19 i19_0 i19_1 hm
          exact absurd hm (Nat.not_lt_zero _)
        | succ nn ih19 =>
          intro y19_4 tri_19 bes_19 wkd_19 bst_19 H locs ls r_wkd_19 i19_0 i19_1 hm hP hD hS hl
          refine lv_iload hx hb dX3_seek_19 (lv_at hl 4 rfl) ?_
          refine lv_bipush (v := 8) hx hb dX3_seek_21 (by decide) ?_
          refine lv_icmp_ge (tgt := 126) hx hb dX3_seek_23 (by decide) (fun c8 => ?_) (fun c8 => ?_)
          · have dc8 : 8 ≤ y19_4.toInt := leC (show (8 : Int32).toInt = 8 from rfl) rfl c8
            refine lv_aload_n hx hb dX3_seek_126 rfl (lv_at hl 0 rfl) ?_
            refine va_get (D := (dC, dI)) (ci := 3) (v := .ref (a 18)) (C := RX3) (T := TX3) (N := 9) hx hb hts inX3 hown hK hP 0 rfl rfl 3 (by decide) lf15 (fun _ h9 => h9) rfl dX3_seek_127 ?_
            refine lv_iload_n hx hb dX3_seek_130 rfl (lv_at hl 1 rfl) ?_
            refine lv_bipush (v := 8) hx hb dX3_seek_131 (by decide) ?_
            have b9 : vp_in i 4 := inC rfl (by omega) (by omega)
            refine va_iast hx hb hK hP hD hS 2 0 rfl rfl b9 dX3_seek_133 (fun H locs hP hD hS => ?_)
            obtain ⟨tri_u10, etri_u10⟩ : ∃ f : Nat → Int32, f = upd tri_19 i.toNatClampNeg 8 := ⟨_, rfl⟩
            have hP : va_P (dC, dI) vwCl (wPln cI cZ cQ a min tri_u10 bes_19 wkd_19 cos rst bst_19 top str gho ghs pto cro pla wal fal tel gai day mar few doo) H := by rw [etri_u10]; exact hP
            have hD : va_D A (wPln cI cZ cQ a min tri_u10 bes_19 wkd_19 cos rst bst_19 top str gho ghs pto cro pla wal fal tel gai day mar few doo) := by rw [etri_u10]; exact hD
            refine lv_aload_n hx hb dX3_seek_134 rfl (lv_at hl 0 rfl) ?_
            refine lv_iload_n hx hb dX3_seek_135 rfl (lv_at hl 1 rfl) ?_
            refine lv_iconst (v := 1) hx hb dX3_seek_136 (by decide) ?_
            refine lv_iadd hx hb dX3_seek_137 ?_
            have f11 : (i + 1).toInt = (i.toInt) + (1) := addC rfl (show (1 : Int32).toInt = 1 from rfl) (by omega) (by omega)
            refine lv_iload_n hx hb dX3_seek_138 rfl (lv_at hl 2 rfl) ?_
            refine lv_iload_n hx hb dX3_seek_139 rfl (lv_at hl 3 rfl) ?_
            refine wvV (As := [.int (i + 1), .int n, .int al]) (rest := []) (wr := []) (w2 := (fun u : US => (wPln cI cZ cQ a min (u.1 0) (u.1 1) (u.1 2) cos rst (u.1 3 0) top str gho ghs pto cro pla wal fal tel gai day mar few doo))) ⟨hx, hb, hml, hown, hts⟩ (k_X3_seek_3 l dC dI cI cZ cQ a min tri_u10 bes_19 wkd_19 cos rst bst_19 top str gho ghs pto cro pla wal fal tel gai day mar few doo _ (i + 1) n al r_wkd_19 r_top r_str r_gho r_ghs r_cro r_pla r_fal r_gai r_day r_mar (by omega) (by omega) (by omega) (by omega)) (cwV 3 hts gX3_seek_X3_seek rfl rfl rfl (by decide +kernel) ⟨Nat.le_of_ble_eq_true rfl, Nat.le_of_ble_eq_true rfl⟩) hP hD hS hA hK hN [0, 1, 2, 3, 4, 5, 6, 7, 8, 9, 10, 11, 12, 13, 14, 15, 16, 17, 18, 19, 20] [] [0, 1, 2, 3, 4, 5, 6, 7, 8, 9, 10, 11, 12, 13, 14, 15, 16, 17, 18, 19, 20] rfl rfl (by decide) (by decide) (by decide) (fun _ => rfl) (by decide) 0 3 rfl rfl rfl hl.1 rfl (Nat.le_of_ble_eq_true rfl) dX3_seek_140 ⟨Nat.le_of_ble_eq_true rfl, Nat.le_of_ble_eq_true rfl⟩ (fun u14 H locs h13 hP hD hS => ?_)
            obtain ⟨tri_c15, etri_c15⟩ : ∃ f : Nat → Int32, f = (u14.1 0) := ⟨_, rfl⟩
            obtain ⟨bes_c16, ebes_c16⟩ : ∃ f : Nat → Int32, f = (u14.1 1) := ⟨_, rfl⟩
            obtain ⟨wkd_c17, ewkd_c17⟩ : ∃ f : Nat → Int32, f = (u14.1 2) := ⟨_, rfl⟩
            obtain ⟨bst_c18, ebst_c18⟩ : ∃ f : Int32, f = (u14.1 3 0) := ⟨_, rfl⟩
            have hP : va_P (dC, dI) vwCl (wPln cI cZ cQ a min tri_c15 bes_c16 wkd_c17 cos rst bst_c18 top str gho ghs pto cro pla wal fal tel gai day mar few doo) H := by rw [etri_c15, ebes_c16, ewkd_c17, ebst_c18]; exact hP
            have hD : va_D A (wPln cI cZ cQ a min tri_c15 bes_c16 wkd_c17 cos rst bst_c18 top str gho ghs pto cro pla wal fal tel gai day mar few doo) := by rw [etri_c15, ebes_c16, ewkd_c17, ebst_c18]; exact hD
            have h13 : (rg 8 (0) (15) wkd_c17) := by (try rw [etri_c15]); (try rw [ebes_c16]); (try rw [ewkd_c17]); (try rw [ebst_c18]); exact h13
            have h13_0 := h13
            exact W.vret hx hb hr (fun t ht hW => ⟨⟨(uS [tri_c15, bes_c16, wkd_c17, (fun _ => bst_c18)] 0 (fun _ => 0)), rfl, h13_0, by rw [ht]; exact hP, hD⟩, hS.F ht⟩) hS.2.2 dX3_seek_143
          · have dc8 : y19_4.toInt < 8 := nleC (show (8 : Int32).toInt = 8 from rfl) rfl c8
            refine lv_aload_n hx hb dX3_seek_26 rfl (lv_at hl 0 rfl) ?_
            refine lv_iload hx hb dX3_seek_27 (lv_at hl 4 rfl) ?_
            refine lv_iload_n hx hb dX3_seek_29 rfl (lv_at hl 1 rfl) ?_
            refine rdV (As := [.int y19_4, .int i]) (rest := []) ⟨hx, hb, hml, hown, hts⟩ (k_X3_walkable l dC dI cI cZ cQ a min tri_19 bes_19 wkd_19 cos rst bst_19 top str gho ghs pto cro pla wal fal tel gai day mar few doo y19_4 i r_wkd_19 r_top r_str r_gho r_ghs r_cro r_pla r_fal r_gai r_day r_mar (by omega) (by omega) (by omega) (by omega)) (cwV 2 hts gX3_seek_X3_walkable rfl rfl rfl (by decide +kernel) ⟨Nat.le_of_ble_eq_true rfl, Nat.le_of_ble_eq_true rfl⟩) hP hK hN [0, 1, 2, 3, 4, 5, 6, 7, 8, 9, 10, 11, 12, 13, 14, 15, 16, 17, 18, 19, 20] rfl 0 3 rfl rfl rfl hl.1 rfl (Nat.le_of_ble_eq_true rfl) dX3_seek_30 ⟨Nat.le_of_ble_eq_true rfl, Nat.le_of_ble_eq_true rfl⟩ (fun r19 h20 => ?_)
            have h20 : ((((r19 = 1)) ∨ ((r19 = 0)))) := h20
            rcases h20 with (rfl | rfl)
            · refine lv_if_eq (tgt := 120) hx hb dX3_seek_33 (by decide) (fun c9 => absurd c9 (by decide)) (fun _ => ?_)
              refine lv_aload_n hx hb dX3_seek_36 rfl (lv_at hl 0 rfl) ?_
              refine va_get (D := (dC, dI)) (ci := 3) (v := .ref (a 20)) (C := RX3) (T := TX3) (N := 9) hx hb hts inX3 hown hK hP 0 rfl rfl 5 (by decide) lf21 (fun _ h9 => h9) rfl dX3_seek_37 ?_
              refine lv_iload hx hb dX3_seek_40 (lv_at hl 4 rfl) ?_
              have b21 : vp_in y19_4 8 := inC rfl (by omega) (by omega)
              refine va_iald hx hb hK hP 4 0 rfl rfl b21 dX3_seek_42 ?_
              have g22 : 0 ≤ (wkd_19 y19_4.toNatClampNeg).toInt ∧ (wkd_19 y19_4.toNatClampNeg).toInt ≤ 15 := rg_at r_wkd_19 b21
              refine lv_topi (fun x23 ex23 => ?_)
              have ix23 : x23.toInt = (wkd_19 y19_4.toNatClampNeg).toInt := by rw [ex23]
              refine lv_istore (lv' := [(5, .int x23), (0, .ref (a 16)), (1, .int i), (2, .int n), (3, .int al), (4, .int y19_4)]) hx hb dX3_seek_43 hl (by decide) rfl (fun ls hl => ?_)
              refine lv_iload hx hb dX3_seek_45 (lv_at hl 0 rfl) ?_
              refine lv_iconst (v := 1) hx hb dX3_seek_47 (by decide) ?_
              refine lv_iload_n hx hb dX3_seek_48 rfl (lv_at hl 2 rfl) ?_
              refine lv_ishl hx hb dX3_seek_49 ?_
              have f24 : 1 ≤ ((1 : Int32) <<< (i &&& 31)).toInt ∧ ((1 : Int32) <<< (i &&& 31)).toInt ≤ 8 := shl1 rfl (by omega) 3 (by omega) (by decide)
              refine lv_ior hx hb dX3_seek_50 ?_
              have f25 : 0 ≤ (x23 ||| ((1 : Int32) <<< (i &&& 31))).toInt ∧ (x23 ||| ((1 : Int32) <<< (i &&& 31))).toInt ≤ 15 := orB rfl rfl 4 (by omega) (by omega) (by omega) (by omega) (by decide)
              refine lv_topi (fun x26 ex26 => ?_)
              have ix26 : x26.toInt = (x23 ||| ((1 : Int32) <<< (i &&& 31))).toInt := by rw [ex26]
              refine lv_istore (lv' := [(6, .int x26), (5, .int x23), (0, .ref (a 16)), (1, .int i), (2, .int n), (3, .int al), (4, .int y19_4)]) hx hb dX3_seek_51 hl (by decide) rfl (fun ls hl => ?_)
              refine lv_aload_n hx hb dX3_seek_53 rfl (lv_at hl 2 rfl) ?_
              refine va_get (D := (dC, dI)) (ci := 3) (v := .ref (a 22)) (C := RX3) (T := TX3) (N := 9) hx hb hts inX3 hown hK hP 0 rfl rfl 7 (by decide) lf27 (fun _ h9 => h9) rfl dX3_seek_54 ?_
              refine lv_iload hx hb dX3_seek_57 (lv_at hl 6 rfl) ?_
              refine lv_bipush (v := 16) hx hb dX3_seek_59 (by decide) ?_
              refine lv_imul hx hb dX3_seek_61 ?_
              have f27 : (y19_4 * 16).toInt = (y19_4.toInt) * (16) := mulC rfl (show (16 : Int32).toInt = 16 from rfl) (by omega) (by omega)
              refine lv_iload hx hb dX3_seek_62 (lv_at hl 0 rfl) ?_
              refine lv_iadd hx hb dX3_seek_64 ?_
              have f28 : ((y19_4 * 16) + x26).toInt = ((y19_4.toInt) * (16)) + (x26.toInt) := addC f27 rfl (by omega) (by omega)
              have b29 : vp_in ((y19_4 * 16) + x26) 128 := inC f28 (by omega) (by omega)
              refine va_iald hx hb hK hP 6 0 rfl rfl b29 dX3_seek_65 ?_
              refine lv_aload_n hx hb dX3_seek_66 rfl (lv_at hl 2 rfl) ?_
              refine va_get (D := (dC, dI)) (ci := 3) (v := .ref (a 22)) (C := RX3) (T := TX3) (N := 9) hx hb hts inX3 hown hK hP 0 rfl rfl 7 (by decide) lf27 (fun _ h9 => h9) rfl dX3_seek_67 ?_
              refine lv_iload hx hb dX3_seek_70 (lv_at hl 6 rfl) ?_
              refine lv_bipush (v := 16) hx hb dX3_seek_72 (by decide) ?_
              refine lv_imul hx hb dX3_seek_74 ?_
              have f30 : (y19_4 * 16).toInt = (y19_4.toInt) * (16) := mulC rfl (show (16 : Int32).toInt = 16 from rfl) (by omega) (by omega)
              refine lv_iload hx hb dX3_seek_75 (lv_at hl 1 rfl) ?_
              refine lv_iadd hx hb dX3_seek_77 ?_
              have f31 : ((y19_4 * 16) + x23).toInt = ((y19_4.toInt) * (16)) + (x23.toInt) := addC f30 rfl (by omega) (by omega)
              have b32 : vp_in ((y19_4 * 16) + x23) 128 := inC f31 (by omega) (by omega)
              refine va_iald hx hb hK hP 6 0 rfl rfl b32 dX3_seek_78 ?_
              refine lv_isub hx hb dX3_seek_79 ?_
              refine lv_topi (fun x33 ex33 => ?_)
              have ix33 : x33.toInt = ((rst ((y19_4 * 16) + x26).toNatClampNeg) - (rst ((y19_4 * 16) + x23).toNatClampNeg)).toInt := by rw [ex33]
              refine lv_istore (lv' := [(7, .int x33), (6, .int x26), (5, .int x23), (0, .ref (a 16)), (1, .int i), (2, .int n), (3, .int al), (4, .int y19_4)]) hx hb dX3_seek_80 hl (by decide) rfl (fun ls hl => ?_)
              refine lv_aload_n hx hb dX3_seek_82 rfl (lv_at hl 3 rfl) ?_
              refine va_get (D := (dC, dI)) (ci := 3) (v := .ref (a 18)) (C := RX3) (T := TX3) (N := 9) hx hb hts inX3 hown hK hP 0 rfl rfl 3 (by decide) lf15 (fun _ h9 => h9) rfl dX3_seek_83 ?_
              refine lv_iload_n hx hb dX3_seek_86 rfl (lv_at hl 4 rfl) ?_
              refine lv_iload hx hb dX3_seek_87 (lv_at hl 7 rfl) ?_
              have b34 : vp_in i 4 := inC rfl (by omega) (by omega)
              refine va_iast hx hb hK hP hD hS 2 0 rfl rfl b34 dX3_seek_89 (fun H locs hP hD hS => ?_)
              obtain ⟨tri_u35, etri_u35⟩ : ∃ f : Nat → Int32, f = upd tri_19 i.toNatClampNeg y19_4 := ⟨_, rfl⟩
              have hP : va_P (dC, dI) vwCl (wPln cI cZ cQ a min tri_u35 bes_19 wkd_19 cos rst bst_19 top str gho ghs pto cro pla wal fal tel gai day mar few doo) H := by rw [etri_u35]; exact hP
              have hD : va_D A (wPln cI cZ cQ a min tri_u35 bes_19 wkd_19 cos rst bst_19 top str gho ghs pto cro pla wal fal tel gai day mar few doo) := by rw [etri_u35]; exact hD
              refine lv_aload_n hx hb dX3_seek_90 rfl (lv_at hl 3 rfl) ?_
              refine va_get (D := (dC, dI)) (ci := 3) (v := .ref (a 20)) (C := RX3) (T := TX3) (N := 9) hx hb hts inX3 hown hK hP 0 rfl rfl 5 (by decide) lf21 (fun _ h9 => h9) rfl dX3_seek_91 ?_
              refine lv_iload hx hb dX3_seek_94 (lv_at hl 7 rfl) ?_
              refine lv_iload hx hb dX3_seek_96 (lv_at hl 1 rfl) ?_
              have b36 : vp_in y19_4 8 := inC rfl (by omega) (by omega)
              have g37 : rg 8 (0) (15) (upd wkd_19 y19_4.toNatClampNeg x26) := rg_upd r_wkd_19 rfl (by omega) (by omega)
              refine va_iast hx hb hK hP hD hS 4 0 rfl rfl b36 dX3_seek_98 (fun H locs hP hD hS => ?_)
              obtain ⟨wkd_u38, ewkd_u38⟩ : ∃ f : Nat → Int32, f = upd wkd_19 y19_4.toNatClampNeg x26 := ⟨_, rfl⟩
              have rwkd_u38 : rg 8 (0) (15) wkd_u38 := by rw [ewkd_u38]; exact g37
              have hP : va_P (dC, dI) vwCl (wPln cI cZ cQ a min tri_u35 bes_19 wkd_u38 cos rst bst_19 top str gho ghs pto cro pla wal fal tel gai day mar few doo) H := by rw [ewkd_u38]; exact hP
              have hD : va_D A (wPln cI cZ cQ a min tri_u35 bes_19 wkd_u38 cos rst bst_19 top str gho ghs pto cro pla wal fal tel gai day mar few doo) := by rw [ewkd_u38]; exact hD
              refine lv_aload_n hx hb dX3_seek_99 rfl (lv_at hl 3 rfl) ?_
              refine lv_iload_n hx hb dX3_seek_100 rfl (lv_at hl 4 rfl) ?_
              refine lv_iconst (v := 1) hx hb dX3_seek_101 (by decide) ?_
              refine lv_iadd hx hb dX3_seek_102 ?_
              have f39 : (i + 1).toInt = (i.toInt) + (1) := addC rfl (show (1 : Int32).toInt = 1 from rfl) (by omega) (by omega)
              refine lv_iload_n hx hb dX3_seek_103 rfl (lv_at hl 5 rfl) ?_
              refine lv_iload_n hx hb dX3_seek_104 rfl (lv_at hl 6 rfl) ?_
              refine lv_iload hx hb dX3_seek_105 (lv_at hl 0 rfl) ?_
              refine lv_iadd hx hb dX3_seek_107 ?_
              refine wvV (As := [.int (i + 1), .int n, .int (al + x33)]) (rest := []) (wr := []) (w2 := (fun u : US => (wPln cI cZ cQ a min (u.1 0) (u.1 1) (u.1 2) cos rst (u.1 3 0) top str gho ghs pto cro pla wal fal tel gai day mar few doo))) ⟨hx, hb, hml, hown, hts⟩ (k_X3_seek_3 l dC dI cI cZ cQ a min tri_u35 bes_19 wkd_u38 cos rst bst_19 top str gho ghs pto cro pla wal fal tel gai day mar few doo _ (i + 1) n (al + x33) rwkd_u38 r_top r_str r_gho r_ghs r_cro r_pla r_fal r_gai r_day r_mar (by omega) (by omega) (by omega) (by omega)) (cwV 3 hts gX3_seek_X3_seek rfl rfl rfl (by decide +kernel) ⟨Nat.le_of_ble_eq_true rfl, Nat.le_of_ble_eq_true rfl⟩) hP hD hS hA hK hN [0, 1, 2, 3, 4, 5, 6, 7, 8, 9, 10, 11, 12, 13, 14, 15, 16, 17, 18, 19, 20] [] [0, 1, 2, 3, 4, 5, 6, 7, 8, 9, 10, 11, 12, 13, 14, 15, 16, 17, 18, 19, 20] rfl rfl (by decide) (by decide) (by decide) (fun _ => rfl) (by decide) 0 3 rfl rfl rfl hl.1 rfl (Nat.le_of_ble_eq_true rfl) dX3_seek_108 ⟨Nat.le_of_ble_eq_true rfl, Nat.le_of_ble_eq_true rfl⟩ (fun u42 H locs h41 hP hD hS => ?_)
              obtain ⟨tri_c43, etri_c43⟩ : ∃ f : Nat → Int32, f = (u42.1 0) := ⟨_, rfl⟩
              obtain ⟨bes_c44, ebes_c44⟩ : ∃ f : Nat → Int32, f = (u42.1 1) := ⟨_, rfl⟩
              obtain ⟨wkd_c45, ewkd_c45⟩ : ∃ f : Nat → Int32, f = (u42.1 2) := ⟨_, rfl⟩
              obtain ⟨bst_c46, ebst_c46⟩ : ∃ f : Int32, f = (u42.1 3 0) := ⟨_, rfl⟩
              have hP : va_P (dC, dI) vwCl (wPln cI cZ cQ a min tri_c43 bes_c44 wkd_c45 cos rst bst_c46 top str gho ghs pto cro pla wal fal tel gai day mar few doo) H := by rw [etri_c43, ebes_c44, ewkd_c45, ebst_c46]; exact hP
              have hD : va_D A (wPln cI cZ cQ a min tri_c43 bes_c44 wkd_c45 cos rst bst_c46 top str gho ghs pto cro pla wal fal tel gai day mar few doo) := by rw [etri_c43, ebes_c44, ewkd_c45, ebst_c46]; exact hD
              have h41 : (rg 8 (0) (15) wkd_c45) := by (try rw [etri_c43]); (try rw [ebes_c44]); (try rw [ewkd_c45]); (try rw [ebst_c46]); exact h41
              have h41_0 := h41
              refine lv_aload_n hx hb dX3_seek_111 rfl (lv_at hl 3 rfl) ?_
              refine va_get (D := (dC, dI)) (ci := 3) (v := .ref (a 20)) (C := RX3) (T := TX3) (N := 9) hx hb hts inX3 hown hK hP 0 rfl rfl 5 (by decide) lf21 (fun _ h9 => h9) rfl dX3_seek_112 ?_
              refine lv_iload hx hb dX3_seek_115 (lv_at hl 7 rfl) ?_
              refine lv_iload hx hb dX3_seek_117 (lv_at hl 2 rfl) ?_
              have b47 : vp_in y19_4 8 := inC rfl (by omega) (by omega)
              have g48 : rg 8 (0) (15) (upd wkd_c45 y19_4.toNatClampNeg x23) := rg_upd h41_0 rfl (by omega) (by omega)
              refine va_iast hx hb hK hP hD hS 4 0 rfl rfl b47 dX3_seek_119 (fun H locs hP hD hS => ?_)
              obtain ⟨wkd_u49, ewkd_u49⟩ : ∃ f : Nat → Int32, f = upd wkd_c45 y19_4.toNatClampNeg x23 := ⟨_, rfl⟩
              have rwkd_u49 : rg 8 (0) (15) wkd_u49 := by rw [ewkd_u49]; exact g48
              have hP : va_P (dC, dI) vwCl (wPln cI cZ cQ a min tri_c43 bes_c44 wkd_u49 cos rst bst_c46 top str gho ghs pto cro pla wal fal tel gai day mar few doo) H := by rw [ewkd_u49]; exact hP
              have hD : va_D A (wPln cI cZ cQ a min tri_c43 bes_c44 wkd_u49 cos rst bst_c46 top str gho ghs pto cro pla wal fal tel gai day mar few doo) := by rw [ewkd_u49]; exact hD
              obtain ⟨z50, ez50⟩ : ∃ y : Int32, y = y19_4 + 1 := ⟨_, rfl⟩
              have iz50 : z50.toInt = y19_4.toInt + 1 := by rw [ez50]; exact addC rfl rfl (by omega) (by omega)
              refine lv_iinc (v := z50) (lv' := [(4, .int z50), (7, .int x33), (6, .int x26), (5, .int x23), (0, .ref (a 16)), (1, .int i), (2, .int n), (3, .int al)]) hx hb dX3_seek_120 hl (k := 7) rfl (by rw [ez50]; rfl) (by decide) rfl (fun ls hl => ?_)
              refine lv_goto (tgt := 19) hx hb dX3_seek_123 (by decide) ?_
              exact ih19 z50 tri_c43 bes_c44 wkd_u49 bst_c46 _ _ _ rwkd_u49 (by omega) (by omega) (by omega) hP hD hS (lv_sub hl [4, 5, 6, 7, 0] rfl)
            · refine lv_if_eq (tgt := 120) hx hb dX3_seek_33 (by decide) (fun _ => ?_) (fun c9 => absurd (by decide) c9)
              obtain ⟨z51, ez51⟩ : ∃ y : Int32, y = y19_4 + 1 := ⟨_, rfl⟩
              have iz51 : z51.toInt = y19_4.toInt + 1 := by rw [ez51]; exact addC rfl rfl (by omega) (by omega)
              refine lv_iinc (v := z51) (lv' := [(4, .int z51), (0, .ref (a 16)), (1, .int i), (2, .int n), (3, .int al)]) hx hb dX3_seek_120 hl (k := 4) rfl (by rw [ez51]; rfl) (by decide) rfl (fun ls hl => ?_)
              refine lv_goto (tgt := 19) hx hb dX3_seek_123 (by decide) ?_
              exact ih19 z51 tri_19 bes_19 wkd_19 bst_19 _ _ _ r_wkd_19 (by omega) (by omega) (by omega) hP hD hS (lv_sub hl [1, 2, 3, 4, 0] rfl)
      have kc52 : (0 : Int32).toInt = 0 := rfl
      exact L19 _ 0 tri bes wkd bst _ _ _ r_wkd (by omega) (by omega) (Nat.lt_succ_self _) hP hD hS (lv_sub hl [1, 2, 3, 4, 0] rfl)
    · have dc7 : 4 ≤ i.toInt := nltC rfl (show (4 : Int32).toInt = 4 from rfl) c7
      exfalso
      omega
set_option maxHeartbeats 4000000 in
set_option maxRecDepth 100000 in
theorem k_X3_findBest (l : Launch) (dC : Nat → ClassId) (dI : Nat → Nat → Nat) (cI cZ cQ : ClassId) (a : Nat → Nat) (min : Nat → Int32) (tri : Nat → Int32) (bes : Nat → Int32) (wkd : Nat → Int32) (cos : Nat → Int32) (rst : Nat → Int32) (bst : Int32) (top : Nat → Int32) (str : Nat → Int32) (gho : Nat → Int32) (ghs : Nat → Int32) (pto : Nat → Int32) (cro : Nat → Int32) (pla : Nat → Int32) (wal : Nat → Int32) (fal : Nat → Int32) (tel : Int32) (gai : Int32) (day : Int32) (mar : Nat → Int32) (few : Nat → Int32) (doo : Int32) (sz : Nat) (n : Int32) (r_wkd : rg 8 (0) (15) wkd) (r_top : rg 48 (-1) (23) top) (r_str : rg 48 (0) (100) str) (r_gho : rg 48 (-1) (23) gho) (r_ghs : rg 48 (0) (100) ghs) (r_cro : rg 48 (0) (6) cro) (r_pla : rg 24 (-1) (47) pla) (r_fal : rg 11 (0) (30) fal) (r_gai : 0 ≤ gai.toInt ∧ gai.toInt ≤ 100) (r_day : 0 ≤ day.toInt ∧ day.toInt ≤ 400) (r_mar : rg 24 (0) (255) mar) (q0 : 1 ≤ n.toInt) (q1 : n.toInt ≤ 4) : KV l yX3_findBest wsX3_findBest { frames := 7, cells := 0, slots := 0, locals := 196 } (dC, dI) (TY cI cZ cQ) (wPln cI cZ cQ a min tri bes wkd cos rst bst top str gho ghs pto cro pla wal fal tel gai day mar few doo) [.ref (a 16), .int n] sz 0 0 (fun (u : US) => (rg 48 (0) (6) (u.1 0)) ∧ (rg 8 (0) (15) (u.1 2))) (fun u : US => (wPln cI cZ cQ a min (u.1 4) (u.1 5) (u.1 2) (u.1 1) (u.1 3) (u.1 6 0) top str gho ghs pto (u.1 0) pla wal fal tel gai day mar few doo)) := by
  refine Met.ofW (cc := cX3_findBest) (maxL := 5) (ret := none) (by decide) rfl ?_
  intro p e s m args below meth c s₁ B hml hv
  obtain ⟨rfl, hsz, hP, hK, hD0, hN⟩ := hv
  have hx := B.exec
  have hb := B.bytes
  have hr := B.returns
  have hts := atoms_spec (ws := wsX3_findBest) B.pre
  have hown : s.vm.findClass RX3 = some m.cls := findClass_of_methodNamed B.named
  have hlocks := B.notSynchronized
  have lf65 := hts (.fieldLink RX3 65 "PalaceOfRooms$Planner" "bestStrength" "I") (by decide +kernel)
  have inX3 : ∀ w ∈ wsX30, w ∈ wsX3_findBest := fun w h => List.mem_cons_of_mem _ (List.mem_append_left _ (List.mem_append_left _ (List.mem_append_left _ (List.mem_append_right _ h))))
  have lf27 := hts (.fieldLink RX3 27 "PalaceOfRooms$Planner" "roomStrength" "[I") (by decide +kernel)
  subst hsz
  have hD := hD0.self (sz := s.heap.size)
  generalize hAe : va_A (wPln cI cZ cQ a min tri bes wkd cos rst bst top str gho ghs pto cro pla wal fal tel gai day mar few doo) s.heap.size = A at hD ⊢
  have hA : ∀ q : Nat, s.heap.size ≤ q → A q := fun q h => by rw [← hAe]; exact Or.inr h
  have hS : va_S A s.heap s.heap [] := va_S.rf
  have hl := lv_entry ([.ref (a 16), .int n]) (n := 5) (Nat.le_of_ble_eq_true rfl)
  rw [lg_entry_eq]
  generalize (lg_sl ([.ref (a 16), .int n]) ++ List.replicate (5 - (lg_sl ([.ref (a 16), .int n])).length) Slot.unset).toArray = ls at hl ⊢
  have hl : lv_has ls 5 [(0, .ref (a 16)), (1, .int n)] := hl
  refine lv_aload_n hx hb dX3_findBest_0 rfl (lv_at hl 0 rfl) ?_
  refine wvV (As := []) (rest := []) (wr := []) (w2 := (fun u : US => (wPln cI cZ cQ a min tri bes (u.1 2) (u.1 1) rst bst top str gho ghs pto (u.1 0) pla wal fal tel gai day mar few doo))) ⟨hx, hb, hml, hown, hts⟩ (k_X3_prepare l dC dI cI cZ cQ a min tri bes wkd cos rst bst top str gho ghs pto cro pla wal fal tel gai day mar few doo _ r_wkd r_top r_str r_gho r_ghs r_cro r_pla r_fal r_gai r_day r_mar) (cwV 0 hts gX3_findBest_X3_prepare rfl rfl rfl (by decide +kernel) ⟨Nat.le_of_ble_eq_true rfl, Nat.le_of_ble_eq_true rfl⟩) hP hD hS hA hK hN [0, 1, 2, 3, 4, 5, 6, 7, 8, 9, 10, 11, 12, 13, 14, 15, 16, 17, 18, 19, 20] [] [0, 1, 2, 3, 4, 5, 6, 7, 8, 9, 10, 11, 12, 13, 14, 15, 16, 17, 18, 19, 20] rfl rfl (by decide) (by decide) (by decide) (fun _ => rfl) (by decide) 0 3 rfl rfl rfl hl.1 rfl (Nat.le_of_ble_eq_true rfl) dX3_findBest_1 ⟨Nat.le_of_ble_eq_true rfl, Nat.le_of_ble_eq_true rfl⟩ (fun u3 H locs h2 hP hD hS => ?_)
  obtain ⟨cro_c4, ecro_c4⟩ : ∃ f : Nat → Int32, f = (u3.1 0) := ⟨_, rfl⟩
  obtain ⟨cos_c5, ecos_c5⟩ : ∃ f : Nat → Int32, f = (u3.1 1) := ⟨_, rfl⟩
  obtain ⟨wkd_c6, ewkd_c6⟩ : ∃ f : Nat → Int32, f = (u3.1 2) := ⟨_, rfl⟩
  have hP : va_P (dC, dI) vwCl (wPln cI cZ cQ a min tri bes wkd_c6 cos_c5 rst bst top str gho ghs pto cro_c4 pla wal fal tel gai day mar few doo) H := by rw [ecro_c4, ecos_c5, ewkd_c6]; exact hP
  have hD : va_D A (wPln cI cZ cQ a min tri bes wkd_c6 cos_c5 rst bst top str gho ghs pto cro_c4 pla wal fal tel gai day mar few doo) := by rw [ecro_c4, ecos_c5, ewkd_c6]; exact hD
  have h2 : (rg 48 (0) (6) cro_c4) ∧ (rg 8 (0) (15) wkd_c6) := by (try rw [ecro_c4]); (try rw [ecos_c5]); (try rw [ewkd_c6]); exact h2
  obtain ⟨h2_0, h2_1⟩ := h2
  refine lv_iconst (v := 0) hx hb dX3_findBest_4 (by decide) ?_
  refine lv_istore_n (lv' := [(2, .int 0), (0, .ref (a 16)), (1, .int n)]) hx hb dX3_findBest_5 rfl hl (by decide) rfl (fun ls hl => ?_)
  refine lv_iconst (v := 0) hx hb dX3_findBest_6 (by decide) ?_
  refine lv_istore_n (lv' := [(3, .int 0), (2, .int 0), (0, .ref (a 16)), (1, .int n)]) hx hb dX3_findBest_7 rfl hl (by decide) rfl (fun ls hl => ?_)
  have L8 : ∀ (nn : Nat) (y8_2 : Int32) (y8_3 : Int32) (rst_8 : Nat → Int32) (H : Heap) (locs : List Loc) (ls : Array Slot), (0 ≤ (y8_3.toInt)) → ((y8_3.toInt) ≤ 8) → (8 - (y8_3.toInt)).toNat < nn → va_P (dC, dI) vwCl (wPln cI cZ cQ a min tri bes wkd_c6 cos_c5 rst_8 bst top str gho ghs pto cro_c4 pla wal fal tel gai day mar few doo) H → va_D A (wPln cI cZ cQ a min tri bes wkd_c6 cos_c5 rst_8 bst top str gho ghs pto cro_c4 pla wal fal tel gai day mar few doo) → va_S A s.heap H locs → lv_has ls 5 [(0, .ref (a 16)), (1, .int n), (2, .int y8_2), (3, .int y8_3)] → W p l e (headSpec wsX3_findBest { frames := 7, cells := 0, slots := 0, locals := 196 }).room s m ([.ref (a 16), .int n] : List Value).toArray below meth c H locs 0 0 (MQ below (va_Qv (fun (u : US) => (rg 48 (0) (6) (u.1 0)) ∧ (rg 8 (0) (15) (u.1 2))) (Bw (dC, dI) A (fun u : US => (wPln cI cZ cQ a min (u.1 4) (u.1 5) (u.1 2) (u.1 1) (u.1 3) (u.1 6 0) top str gho ghs pto (u.1 0) pla wal fal tel gai day mar few doo))) A) ([.ref (a 16), .int n] : List Value).toArray s 0 0 A) (F0 m 8 ls []) := by
    intro nn
    induction nn with
    | zero =>
      intro y8_2 y8_3 rst_8 H locs ls i8_0 i8_1 hm
      exact absurd hm (Nat.not_lt_zero _)
    | succ nn ih8 =>
      intro y8_2 y8_3 rst_8 H locs ls i8_0 i8_1 hm hP hD hS hl
      refine lv_iload_n hx hb dX3_findBest_8 rfl (lv_at hl 3 rfl) ?_
      refine lv_bipush (v := 8) hx hb dX3_findBest_9 (by decide) ?_
      refine lv_icmp_ge (tgt := 69) hx hb dX3_findBest_11 (by decide) (fun c7 => ?_) (fun c7 => ?_)
      · have dc7 : 8 ≤ y8_3.toInt := leC (show (8 : Int32).toInt = 8 from rfl) rfl c7
        refine lv_aload_n hx hb dX3_findBest_69 rfl (lv_at hl 0 rfl) ?_
        refine lv_iconst (v := (-1)) hx hb dX3_findBest_70 (by decide) ?_
        refine va_put (D := (dC, dI)) (ci := 3) (v := .int (-1)) (ty := .int) (C := RX3) (T := TX3) (N := 9) hx hb hts inX3 tyX3 tyX3_ok nmX3 hown hK hP hD hS 0 rfl rfl 8 (by decide) lf65 (fun _ h9 => h9) rfl (by decide +kernel) rfl rfl (Nat.le_of_ble_eq_true rfl) dX3_findBest_71 (fun H locs hP hD hS => ?_)
        have hP : va_P (dC, dI) vwCl (wPln cI cZ cQ a min tri bes wkd_c6 cos_c5 rst_8 (-1) top str gho ghs pto cro_c4 pla wal fal tel gai day mar few doo) H := hP
        have hD : va_D A (wPln cI cZ cQ a min tri bes wkd_c6 cos_c5 rst_8 (-1) top str gho ghs pto cro_c4 pla wal fal tel gai day mar few doo) := hD
        refine lv_aload_n hx hb dX3_findBest_74 rfl (lv_at hl 0 rfl) ?_
        refine lv_iconst (v := 0) hx hb dX3_findBest_75 (by decide) ?_
        refine lv_iload_n hx hb dX3_findBest_76 rfl (lv_at hl 1 rfl) ?_
        refine lv_iload_n hx hb dX3_findBest_77 rfl (lv_at hl 2 rfl) ?_
        have kc0 : (0 : Int32).toInt = 0 := rfl
        refine wvV (As := [.int 0, .int n, .int y8_2]) (rest := []) (wr := []) (w2 := (fun u : US => (wPln cI cZ cQ a min (u.1 0) (u.1 1) (u.1 2) cos_c5 rst_8 (u.1 3 0) top str gho ghs pto cro_c4 pla wal fal tel gai day mar few doo))) ⟨hx, hb, hml, hown, hts⟩ (k_X3_seek_4 l dC dI cI cZ cQ a min tri bes wkd_c6 cos_c5 rst_8 (-1) top str gho ghs pto cro_c4 pla wal fal tel gai day mar few doo _ (0 : Int32) n y8_2 h2_1 r_top r_str r_gho r_ghs h2_0 r_pla r_fal r_gai r_day r_mar (by omega) (by omega) (by omega) (by omega)) (cwV 3 hts gX3_findBest_X3_seek rfl rfl rfl (by decide +kernel) ⟨Nat.le_of_ble_eq_true rfl, Nat.le_of_ble_eq_true rfl⟩) hP hD hS hA hK hN [0, 1, 2, 3, 4, 5, 6, 7, 8, 9, 10, 11, 12, 13, 14, 15, 16, 17, 18, 19, 20] [] [0, 1, 2, 3, 4, 5, 6, 7, 8, 9, 10, 11, 12, 13, 14, 15, 16, 17, 18, 19, 20] rfl rfl (by decide) (by decide) (by decide) (fun _ => rfl) (by decide) 0 3 rfl rfl rfl hl.1 rfl (Nat.le_of_ble_eq_true rfl) dX3_findBest_78 ⟨Nat.le_of_ble_eq_true rfl, Nat.le_of_ble_eq_true rfl⟩ (fun u10 H locs h9 hP hD hS => ?_)
        obtain ⟨tri_c11, etri_c11⟩ : ∃ f : Nat → Int32, f = (u10.1 0) := ⟨_, rfl⟩
        obtain ⟨bes_c12, ebes_c12⟩ : ∃ f : Nat → Int32, f = (u10.1 1) := ⟨_, rfl⟩
        obtain ⟨wkd_c13, ewkd_c13⟩ : ∃ f : Nat → Int32, f = (u10.1 2) := ⟨_, rfl⟩
        obtain ⟨bst_c14, ebst_c14⟩ : ∃ f : Int32, f = (u10.1 3 0) := ⟨_, rfl⟩
        have hP : va_P (dC, dI) vwCl (wPln cI cZ cQ a min tri_c11 bes_c12 wkd_c13 cos_c5 rst_8 bst_c14 top str gho ghs pto cro_c4 pla wal fal tel gai day mar few doo) H := by rw [etri_c11, ebes_c12, ewkd_c13, ebst_c14]; exact hP
        have hD : va_D A (wPln cI cZ cQ a min tri_c11 bes_c12 wkd_c13 cos_c5 rst_8 bst_c14 top str gho ghs pto cro_c4 pla wal fal tel gai day mar few doo) := by rw [etri_c11, ebes_c12, ewkd_c13, ebst_c14]; exact hD
        have h9 : (rg 8 (0) (15) wkd_c13) := by (try rw [etri_c11]); (try rw [ebes_c12]); (try rw [ewkd_c13]); (try rw [ebst_c14]); exact h9
        have h9_0 := h9
        exact W.vret hx hb hr (fun t ht hW => ⟨⟨(uS [cro_c4, cos_c5, wkd_c13, rst_8, tri_c11, bes_c12, (fun _ => bst_c14)] 0 (fun _ => 0)), rfl, ⟨h2_0, h9_0⟩, by rw [ht]; exact hP, hD⟩, hS.F ht⟩) hS.2.2 dX3_findBest_81
      · have dc7 : y8_3.toInt < 8 := nleC (show (8 : Int32).toInt = 8 from rfl) rfl c7
        refine lv_iconst (v := 0) hx hb dX3_findBest_14 (by decide) ?_
        refine lv_istore (lv' := [(4, .int 0), (0, .ref (a 16)), (1, .int n), (2, .int y8_2), (3, .int y8_3)]) hx hb dX3_findBest_15 hl (by decide) rfl (fun ls hl => ?_)
        have L17 : ∀ (nn : Nat) (y17_4 : Int32) (rst_17 : Nat → Int32) (H : Heap) (locs : List Loc) (ls : Array Slot), (0 ≤ (y17_4.toInt)) → ((y17_4.toInt) ≤ 16) → (16 - (y17_4.toInt)).toNat < nn → va_P (dC, dI) vwCl (wPln cI cZ cQ a min tri bes wkd_c6 cos_c5 rst_17 bst top str gho ghs pto cro_c4 pla wal fal tel gai day mar few doo) H → va_D A (wPln cI cZ cQ a min tri bes wkd_c6 cos_c5 rst_17 bst top str gho ghs pto cro_c4 pla wal fal tel gai day mar few doo) → va_S A s.heap H locs → lv_has ls 5 [(0, .ref (a 16)), (1, .int n), (2, .int y8_2), (3, .int y8_3), (4, .int y17_4)] → W p l e (headSpec wsX3_findBest { frames := 7, cells := 0, slots := 0, locals := 196 }).room s m ([.ref (a 16), .int n] : List Value).toArray below meth c H locs 0 0 (MQ below (va_Qv (fun (u : US) => (rg 48 (0) (6) (u.1 0)) ∧ (rg 8 (0) (15) (u.1 2))) (Bw (dC, dI) A (fun u : US => (wPln cI cZ cQ a min (u.1 4) (u.1 5) (u.1 2) (u.1 1) (u.1 3) (u.1 6 0) top str gho ghs pto (u.1 0) pla wal fal tel gai day mar few doo))) A) ([.ref (a 16), .int n] : List Value).toArray s 0 0 A) (F0 m 17 ls []) := by
          intro nn
          induction nn with
          | zero =>
            intro y17_4 rst_17 H locs ls i17_0 i17_1 hm
            exact absurd hm (Nat.not_lt_zero _)
          | succ nn ih17 =>
            intro y17_4 rst_17 H locs ls i17_0 i17_1 hm hP hD hS hl
            refine lv_iload hx hb dX3_findBest_17 (lv_at hl 4 rfl) ?_
            refine lv_iconst (v := 1) hx hb dX3_findBest_19 (by decide) ?_
            refine lv_iload_n hx hb dX3_findBest_20 rfl (lv_at hl 1 rfl) ?_
            refine lv_ishl hx hb dX3_findBest_21 ?_
            have f15 : 1 ≤ ((1 : Int32) <<< (n &&& 31)).toInt ∧ ((1 : Int32) <<< (n &&& 31)).toInt ≤ 16 := shl1 rfl (by omega) 4 (by omega) (by decide)
            refine lv_icmp_ge (tgt := 51) hx hb dX3_findBest_22 (by decide) (fun c16 => ?_) (fun c16 => ?_)
            · have dc16 : ((1 : Int32) <<< (n &&& 31)).toInt ≤ y17_4.toInt := leC rfl rfl c16
              refine lv_iload_n hx hb dX3_findBest_51 rfl (lv_at hl 2 rfl) ?_
              refine lv_aload_n hx hb dX3_findBest_52 rfl (lv_at hl 0 rfl) ?_
              refine va_get (D := (dC, dI)) (ci := 3) (v := .ref (a 22)) (C := RX3) (T := TX3) (N := 9) hx hb hts inX3 hown hK hP 0 rfl rfl 7 (by decide) lf27 (fun _ h9 => h9) rfl dX3_findBest_53 ?_
              refine lv_iload_n hx hb dX3_findBest_56 rfl (lv_at hl 3 rfl) ?_
              refine lv_bipush (v := 16) hx hb dX3_findBest_57 (by decide) ?_
              refine lv_imul hx hb dX3_findBest_59 ?_
              have f17 : (y8_3 * 16).toInt = (y8_3.toInt) * (16) := mulC rfl (show (16 : Int32).toInt = 16 from rfl) (by omega) (by omega)
              have b18 : vp_in (y8_3 * 16) 128 := inC f17 (by omega) (by omega)
              refine va_iald hx hb hK hP 6 0 rfl rfl b18 dX3_findBest_60 ?_
              refine lv_iadd hx hb dX3_findBest_61 ?_
              refine lv_topi (fun x19 ex19 => ?_)
              have ix19 : x19.toInt = (y8_2 + (rst_17 (y8_3 * 16).toNatClampNeg)).toInt := by rw [ex19]
              refine lv_istore_n (lv' := [(2, .int x19), (0, .ref (a 16)), (1, .int n), (3, .int y8_3), (4, .int y17_4)]) hx hb dX3_findBest_62 rfl hl (by decide) rfl (fun ls hl => ?_)
              obtain ⟨z20, ez20⟩ : ∃ y : Int32, y = y8_3 + 1 := ⟨_, rfl⟩
              have iz20 : z20.toInt = y8_3.toInt + 1 := by rw [ez20]; exact addC rfl rfl (by omega) (by omega)
              refine lv_iinc (v := z20) (lv' := [(3, .int z20), (2, .int x19), (0, .ref (a 16)), (1, .int n), (4, .int y17_4)]) hx hb dX3_findBest_63 hl (k := 3) rfl (by rw [ez20]; rfl) (by decide) rfl (fun ls hl => ?_)
              refine lv_goto (tgt := 8) hx hb dX3_findBest_66 (by decide) ?_
              exact ih8 x19 z20 rst_17 _ _ _ (by omega) (by omega) (by omega) hP hD hS (lv_sub hl [2, 3, 1, 0] rfl)
            · have dc16 : y17_4.toInt < ((1 : Int32) <<< (n &&& 31)).toInt := nleC rfl rfl c16
              refine lv_aload_n hx hb dX3_findBest_25 rfl (lv_at hl 0 rfl) ?_
              refine va_get (D := (dC, dI)) (ci := 3) (v := .ref (a 22)) (C := RX3) (T := TX3) (N := 9) hx hb hts inX3 hown hK hP 0 rfl rfl 7 (by decide) lf27 (fun _ h9 => h9) rfl dX3_findBest_26 ?_
              refine lv_iload_n hx hb dX3_findBest_29 rfl (lv_at hl 3 rfl) ?_
              refine lv_bipush (v := 16) hx hb dX3_findBest_30 (by decide) ?_
              refine lv_imul hx hb dX3_findBest_32 ?_
              have f21 : (y8_3 * 16).toInt = (y8_3.toInt) * (16) := mulC rfl (show (16 : Int32).toInt = 16 from rfl) (by omega) (by omega)
              refine lv_iload hx hb dX3_findBest_33 (lv_at hl 4 rfl) ?_
              refine lv_iadd hx hb dX3_findBest_35 ?_
              have f22 : ((y8_3 * 16) + y17_4).toInt = ((y8_3.toInt) * (16)) + (y17_4.toInt) := addC f21 rfl (by omega) (by omega)
              refine lv_aload_n hx hb dX3_findBest_36 rfl (lv_at hl 0 rfl) ?_
              refine lv_iload_n hx hb dX3_findBest_37 rfl (lv_at hl 3 rfl) ?_
              refine lv_iload_n hx hb dX3_findBest_38 rfl (lv_at hl 1 rfl) ?_
              refine lv_iload hx hb dX3_findBest_39 (lv_at hl 4 rfl) ?_
              refine rdV (As := [.int y8_3, .int n, .int y17_4]) (rest := [.int ((y8_3 * 16) + y17_4), .ref (a 22)]) ⟨hx, hb, hml, hown, hts⟩ (k_X3_strengthOfRoom l dC dI cI cZ cQ a min tri bes wkd_c6 cos_c5 rst_17 bst top str gho ghs pto cro_c4 pla wal fal tel gai day mar few doo y8_3 n y17_4 h2_1 r_top r_str r_gho r_ghs h2_0 r_pla r_fal r_gai r_day r_mar (by omega) (by omega) (by omega)) (cwV 3 hts gX3_findBest_X3_strengthOfRoom rfl rfl rfl (by decide +kernel) ⟨Nat.le_of_ble_eq_true rfl, Nat.le_of_ble_eq_true rfl⟩) hP hK hN [0, 1, 2, 3, 4, 5, 6, 7, 8, 9, 10, 11, 12, 13, 14, 15, 16, 17, 18, 19, 20] rfl 0 3 rfl rfl rfl hl.1 rfl (Nat.le_of_ble_eq_true rfl) dX3_findBest_41 ⟨Nat.le_of_ble_eq_true rfl, Nat.le_of_ble_eq_true rfl⟩ (fun r23 h24 => ?_)
              have h24 : True := h24
              have b25 : vp_in ((y8_3 * 16) + y17_4) 128 := inC f22 (by omega) (by omega)
              refine va_iast hx hb hK hP hD hS 6 0 rfl rfl b25 dX3_findBest_44 (fun H locs hP hD hS => ?_)
              obtain ⟨rst_u26, erst_u26⟩ : ∃ f : Nat → Int32, f = upd rst_17 ((y8_3 * 16) + y17_4).toNatClampNeg r23 := ⟨_, rfl⟩
              have hP : va_P (dC, dI) vwCl (wPln cI cZ cQ a min tri bes wkd_c6 cos_c5 rst_u26 bst top str gho ghs pto cro_c4 pla wal fal tel gai day mar few doo) H := by rw [erst_u26]; exact hP
              have hD : va_D A (wPln cI cZ cQ a min tri bes wkd_c6 cos_c5 rst_u26 bst top str gho ghs pto cro_c4 pla wal fal tel gai day mar few doo) := by rw [erst_u26]; exact hD
              obtain ⟨z27, ez27⟩ : ∃ y : Int32, y = y17_4 + 1 := ⟨_, rfl⟩
              have iz27 : z27.toInt = y17_4.toInt + 1 := by rw [ez27]; exact addC rfl rfl (by omega) (by omega)
              refine lv_iinc (v := z27) (lv' := [(4, .int z27), (0, .ref (a 16)), (1, .int n), (2, .int y8_2), (3, .int y8_3)]) hx hb dX3_findBest_45 hl (k := 4) rfl (by rw [ez27]; rfl) (by decide) rfl (fun ls hl => ?_)
              refine lv_goto (tgt := 17) hx hb dX3_findBest_48 (by decide) ?_
              exact ih17 z27 rst_u26 _ _ _ (by omega) (by omega) (by omega) hP hD hS (lv_sub hl [1, 2, 3, 4, 0] rfl)
        have kc28 : (0 : Int32).toInt = 0 := rfl
        exact L17 _ 0 rst_8 _ _ _ (by omega) (by omega) (Nat.lt_succ_self _) hP hD hS (lv_sub hl [1, 2, 3, 4, 0] rfl)
  have kc29 : (0 : Int32).toInt = 0 := rfl
  exact L8 _ 0 0 rst _ _ _ (by omega) (by omega) (Nat.lt_succ_self _) hP hD hS (lv_sub hl [2, 3, 1, 0] rfl)
