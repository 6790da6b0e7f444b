theorem dX0_init_0 : decode cX0_init 0 = .ok (.aload_n 0, 1) := by decide +kernel
theorem dX0_init_1 : decode cX0_init 1 = .ok (.invokespecial 3, 3) := by decide +kernel
theorem dX0_init_4 : decode cX0_init 4 = .ok (.aload_n 0, 1) := by decide +kernel
theorem dX0_init_5 : decode cX0_init 5 = .ok (.bipush 24, 2) := by decide +kernel
theorem dX0_init_7 : decode cX0_init 7 = .ok (.newarray .int, 2) := by decide +kernel
theorem dX0_init_9 : decode cX0_init 9 = .ok (.putfield 11, 3) := by decide +kernel
theorem dX0_init_12 : decode cX0_init 12 = .ok (.aload_n 0, 1) := by decide +kernel
theorem dX0_init_13 : decode cX0_init 13 = .ok (.bipush 24, 2) := by decide +kernel
theorem dX0_init_15 : decode cX0_init 15 = .ok (.newarray .int, 2) := by decide +kernel
theorem dX0_init_17 : decode cX0_init 17 = .ok (.putfield 15, 3) := by decide +kernel
theorem dX0_init_20 : decode cX0_init 20 = .ok (.aload_n 0, 1) := by decide +kernel
theorem dX0_init_21 : decode cX0_init 21 = .ok (.bipush 24, 2) := by decide +kernel
theorem dX0_init_23 : decode cX0_init 23 = .ok (.newarray .int, 2) := by decide +kernel
theorem dX0_init_25 : decode cX0_init 25 = .ok (.putfield 18, 3) := by decide +kernel
theorem dX0_init_28 : decode cX0_init 28 = .ok (.aload_n 0, 1) := by decide +kernel
theorem dX0_init_29 : decode cX0_init 29 = .ok (.sipush 216, 3) := by decide +kernel
theorem dX0_init_32 : decode cX0_init 32 = .ok (.newarray .int, 2) := by decide +kernel
theorem dX0_init_34 : decode cX0_init 34 = .ok (.putfield 21, 3) := by decide +kernel
theorem dX0_init_37 : decode cX0_init 37 = .ok (.aload_n 0, 1) := by decide +kernel
theorem dX0_init_38 : decode cX0_init 38 = .ok (.sipush 216, 3) := by decide +kernel
theorem dX0_init_41 : decode cX0_init 41 = .ok (.newarray .int, 2) := by decide +kernel
theorem dX0_init_43 : decode cX0_init 43 = .ok (.putfield 24, 3) := by decide +kernel
theorem dX0_init_46 : decode cX0_init 46 = .ok (.aload_n 0, 1) := by decide +kernel
theorem dX0_init_47 : decode cX0_init 47 = .ok (.sipush 216, 3) := by decide +kernel
theorem dX0_init_50 : decode cX0_init 50 = .ok (.newarray .int, 2) := by decide +kernel
theorem dX0_init_52 : decode cX0_init 52 = .ok (.putfield 27, 3) := by decide +kernel
theorem dX0_init_55 : decode cX0_init 55 = .ok (.aload_n 0, 1) := by decide +kernel
theorem dX0_init_56 : decode cX0_init 56 = .ok (.sipush 216, 3) := by decide +kernel
theorem dX0_init_59 : decode cX0_init 59 = .ok (.newarray .int, 2) := by decide +kernel
theorem dX0_init_61 : decode cX0_init 61 = .ok (.putfield 30, 3) := by decide +kernel
theorem dX0_init_64 : decode cX0_init 64 = .ok (.aload_n 0, 1) := by decide +kernel
theorem dX0_init_65 : decode cX0_init 65 = .ok (.iconst 0, 1) := by decide +kernel
theorem dX0_init_66 : decode cX0_init 66 = .ok (.putfield 33, 3) := by decide +kernel
theorem dX0_init_69 : decode cX0_init 69 = .ok (.return_, 1) := by decide +kernel
set_option maxRecDepth 20000 in
theorem ggX0_move_X0_lastLoan : GoodIn wsX0_move wsX0_lastLoan := goodIn_r _ [7, 8, 9, 10, 11, 12, 13, 14, 15, 16] (by decide +kernel) (by decide +kernel)
set_option maxRecDepth 20000 in
theorem gX0_move_X0_lastLoan : GoodIn wsX0_move (wsV RX0 37 RX0 yX0_lastLoan wsX0_lastLoan) := goodIn_app (goodIn_of _ (by decide +kernel)) ggX0_move_X0_lastLoan
theorem dX0_move_0 : decode cX0_move 0 = .ok (.aload_n 0, 1) := by decide +kernel
theorem dX0_move_1 : decode cX0_move 1 = .ok (.getfield 15, 3) := by decide +kernel
theorem dX0_move_4 : decode cX0_move 4 = .ok (.iload_n 1, 1) := by decide +kernel
theorem dX0_move_5 : decode cX0_move 5 = .ok (.iaload, 1) := by decide +kernel
theorem dX0_move_6 : decode cX0_move 6 = .ok (.iconst 1, 1) := by decide +kernel
theorem dX0_move_7 : decode cX0_move 7 = .ok (.if_icmp .ne 14, 3) := by decide +kernel
theorem dX0_move_10 : decode cX0_move 10 = .ok (.aload_n 0, 1) := by decide +kernel
theorem dX0_move_11 : decode cX0_move 11 = .ok (.getfield 30, 3) := by decide +kernel
theorem dX0_move_14 : decode cX0_move 14 = .ok (.aload_n 0, 1) := by decide +kernel
theorem dX0_move_15 : decode cX0_move 15 = .ok (.iload_n 1, 1) := by decide +kernel
theorem dX0_move_16 : decode cX0_move 16 = .ok (.invokevirtual 37, 3) := by decide +kernel
theorem dX0_move_19 : decode cX0_move 19 = .ok (.iload_n 3, 1) := by decide +kernel
theorem dX0_move_20 : decode cX0_move 20 = .ok (.iastore, 1) := by decide +kernel
theorem dX0_move_21 : decode cX0_move 21 = .ok (.aload_n 0, 1) := by decide +kernel
theorem dX0_move_22 : decode cX0_move 22 = .ok (.getfield 15, 3) := by decide +kernel
theorem dX0_move_25 : decode cX0_move 25 = .ok (.iload_n 1, 1) := by decide +kernel
theorem dX0_move_26 : decode cX0_move 26 = .ok (.iload_n 2, 1) := by decide +kernel
theorem dX0_move_27 : decode cX0_move 27 = .ok (.iastore, 1) := by decide +kernel
theorem dX0_move_28 : decode cX0_move 28 = .ok (.return_, 1) := by decide +kernel
set_option maxRecDepth 20000 in
theorem ggX0_voidCopiesOf_X0_move : GoodIn wsX0_voidCopiesOf wsX0_move := goodIn_r _ [7, 8, 9, 10, 11, 12, 6, 13, 14, 15, 16, 17, 18, 19, 20, 21, 22] (by decide +kernel) (by decide +kernel)
set_option maxRecDepth 20000 in
theorem gX0_voidCopiesOf_X0_move : GoodIn wsX0_voidCopiesOf (wsV RX0 41 RX0 yX0_move wsX0_move) := goodIn_app (goodIn_of _ (by decide +kernel)) ggX0_voidCopiesOf_X0_move
theorem dX0_voidCopiesOf_0 : decode cX0_voidCopiesOf 0 = .ok (.iconst 0, 1) := by decide +kernel
theorem dX0_voidCopiesOf_1 : decode cX0_voidCopiesOf 1 = .ok (.istore_n 3, 1) := by decide +kernel
theorem dX0_voidCopiesOf_2 : decode cX0_voidCopiesOf 2 = .ok (.iload_n 3, 1) := by decide +kernel
theorem dX0_voidCopiesOf_3 : decode cX0_voidCopiesOf 3 = .ok (.aload_n 0, 1) := by decide +kernel
theorem dX0_voidCopiesOf_4 : decode cX0_voidCopiesOf 4 = .ok (.getfield 33, 3) := by decide +kernel
theorem dX0_voidCopiesOf_7 : decode cX0_voidCopiesOf 7 = .ok (.if_icmp .ge 26, 3) := by decide +kernel
theorem dX0_voidCopiesOf_10 : decode cX0_voidCopiesOf 10 = .ok (.aload_n 0, 1) := by decide +kernel
theorem dX0_voidCopiesOf_11 : decode cX0_voidCopiesOf 11 = .ok (.getfield 11, 3) := by decide +kernel
theorem dX0_voidCopiesOf_14 : decode cX0_voidCopiesOf 14 = .ok (.iload_n 3, 1) := by decide +kernel
theorem dX0_voidCopiesOf_15 : decode cX0_voidCopiesOf 15 = .ok (.iaload, 1) := by decide +kernel
theorem dX0_voidCopiesOf_16 : decode cX0_voidCopiesOf 16 = .ok (.iload_n 1, 1) := by decide +kernel
theorem dX0_voidCopiesOf_17 : decode cX0_voidCopiesOf 17 = .ok (.if_icmp .ne 10, 3) := by decide +kernel
theorem dX0_voidCopiesOf_20 : decode cX0_voidCopiesOf 20 = .ok (.aload_n 0, 1) := by decide +kernel
theorem dX0_voidCopiesOf_21 : decode cX0_voidCopiesOf 21 = .ok (.iload_n 3, 1) := by decide +kernel
theorem dX0_voidCopiesOf_22 : decode cX0_voidCopiesOf 22 = .ok (.iconst 3, 1) := by decide +kernel
theorem dX0_voidCopiesOf_23 : decode cX0_voidCopiesOf 23 = .ok (.iload_n 2, 1) := by decide +kernel
theorem dX0_voidCopiesOf_24 : decode cX0_voidCopiesOf 24 = .ok (.invokevirtual 41, 3) := by decide +kernel
theorem dX0_voidCopiesOf_27 : decode cX0_voidCopiesOf 27 = .ok (.iinc 3 1, 3) := by decide +kernel
theorem dX0_voidCopiesOf_30 : decode cX0_voidCopiesOf 30 = .ok (.goto (-28), 3) := by decide +kernel
theorem dX0_voidCopiesOf_33 : decode cX0_voidCopiesOf 33 = .ok (.return_, 1) := by decide +kernel
theorem dX0_lastLoan_0 : decode cX0_lastLoan 0 = .ok (.iload_n 1, 1) := by decide +kernel
theorem dX0_lastLoan_1 : decode cX0_lastLoan 1 = .ok (.bipush 9, 2) := by decide +kernel
theorem dX0_lastLoan_3 : decode cX0_lastLoan 3 = .ok (.imul, 1) := by decide +kernel
theorem dX0_lastLoan_4 : decode cX0_lastLoan 4 = .ok (.aload_n 0, 1) := by decide +kernel
theorem dX0_lastLoan_5 : decode cX0_lastLoan 5 = .ok (.getfield 18, 3) := by decide +kernel
theorem dX0_lastLoan_8 : decode cX0_lastLoan 8 = .ok (.iload_n 1, 1) := by decide +kernel
theorem dX0_lastLoan_9 : decode cX0_lastLoan 9 = .ok (.iaload, 1) := by decide +kernel
theorem dX0_lastLoan_10 : decode cX0_lastLoan 10 = .ok (.iadd, 1) := by decide +kernel
theorem dX0_lastLoan_11 : decode cX0_lastLoan 11 = .ok (.iconst 1, 1) := by decide +kernel
theorem dX0_lastLoan_12 : decode cX0_lastLoan 12 = .ok (.isub, 1) := by decide +kernel
theorem dX0_lastLoan_13 : decode cX0_lastLoan 13 = .ok (.ireturn, 1) := by decide +kernel
theorem dX1_init_0 : decode cX1_init 0 = .ok (.aload_n 0, 1) := by decide +kernel
theorem dX1_init_1 : decode cX1_init 1 = .ok (.invokespecial 3, 3) := by decide +kernel
theorem dX1_init_4 : decode cX1_init 4 = .ok (.aload_n 0, 1) := by decide +kernel
theorem dX1_init_5 : decode cX1_init 5 = .ok (.bipush 8, 2) := by decide +kernel
theorem dX1_init_7 : decode cX1_init 7 = .ok (.newarray .int, 2) := by decide +kernel
theorem dX1_init_9 : decode cX1_init 9 = .ok (.putfield 11, 3) := by decide +kernel
theorem dX1_init_12 : decode cX1_init 12 = .ok (.aload_n 0, 1) := by decide +kernel
theorem dX1_init_13 : decode cX1_init 13 = .ok (.bipush 8, 2) := by decide +kernel
theorem dX1_init_15 : decode cX1_init 15 = .ok (.newarray .int, 2) := by decide +kernel
theorem dX1_init_17 : decode cX1_init 17 = .ok (.putfield 15, 3) := by decide +kernel
theorem dX1_init_20 : decode cX1_init 20 = .ok (.aload_n 0, 1) := by decide +kernel
theorem dX1_init_21 : decode cX1_init 21 = .ok (.bipush 8, 2) := by decide +kernel
theorem dX1_init_23 : decode cX1_init 23 = .ok (.newarray .int, 2) := by decide +kernel
theorem dX1_init_25 : decode cX1_init 25 = .ok (.putfield 18, 3) := by decide +kernel
theorem dX1_init_28 : decode cX1_init 28 = .ok (.aload_n 0, 1) := by decide +kernel
theorem dX1_init_29 : decode cX1_init 29 = .ok (.bipush 8, 2) := by decide +kernel
theorem dX1_init_31 : decode cX1_init 31 = .ok (.newarray .int, 2) := by decide +kernel
theorem dX1_init_33 : decode cX1_init 33 = .ok (.putfield 21, 3) := by decide +kernel
theorem dX1_init_36 : decode cX1_init 36 = .ok (.aload_n 0, 1) := by decide +kernel
theorem dX1_init_37 : decode cX1_init 37 = .ok (.bipush 8, 2) := by decide +kernel
theorem dX1_init_39 : decode cX1_init 39 = .ok (.newarray .int, 2) := by decide +kernel
theorem dX1_init_41 : decode cX1_init 41 = .ok (.putfield 24, 3) := by decide +kernel
theorem dX1_init_44 : decode cX1_init 44 = .ok (.aload_n 0, 1) := by decide +kernel
theorem dX1_init_45 : decode cX1_init 45 = .ok (.iconst 0, 1) := by decide +kernel
theorem dX1_init_46 : decode cX1_init 46 = .ok (.putfield 27, 3) := by decide +kernel
theorem dX1_init_49 : decode cX1_init 49 = .ok (.aload_n 0, 1) := by decide +kernel
theorem dX1_init_50 : decode cX1_init 50 = .ok (.iconst 0, 1) := by decide +kernel
theorem dX1_init_51 : decode cX1_init 51 = .ok (.putfield 31, 3) := by decide +kernel
theorem dX1_init_54 : decode cX1_init 54 = .ok (.aload_n 0, 1) := by decide +kernel
theorem dX1_init_55 : decode cX1_init 55 = .ok (.iconst 0, 1) := by decide +kernel
theorem dX1_init_56 : decode cX1_init 56 = .ok (.putfield 34, 3) := by decide +kernel
theorem dX1_init_59 : decode cX1_init 59 = .ok (.return_, 1) := by decide +kernel
theorem dX1_isTaken_0 : decode cX1_isTaken 0 = .ok (.iconst 0, 1) := by decide +kernel
theorem dX1_isTaken_1 : decode cX1_isTaken 1 = .ok (.istore_n 2, 1) := by decide +kernel
theorem dX1_isTaken_2 : decode cX1_isTaken 2 = .ok (.iload_n 2, 1) := by decide +kernel
theorem dX1_isTaken_3 : decode cX1_isTaken 3 = .ok (.aload_n 0, 1) := by decide +kernel
theorem dX1_isTaken_4 : decode cX1_isTaken 4 = .ok (.getfield 27, 3) := by decide +kernel
theorem dX1_isTaken_7 : decode cX1_isTaken 7 = .ok (.if_icmp .ge 21, 3) := by decide +kernel
theorem dX1_isTaken_10 : decode cX1_isTaken 10 = .ok (.aload_n 0, 1) := by decide +kernel
theorem dX1_isTaken_11 : decode cX1_isTaken 11 = .ok (.getfield 11, 3) := by decide +kernel
theorem dX1_isTaken_14 : decode cX1_isTaken 14 = .ok (.iload_n 2, 1) := by decide +kernel
theorem dX1_isTaken_15 : decode cX1_isTaken 15 = .ok (.iaload, 1) := by decide +kernel
theorem dX1_isTaken_16 : decode cX1_isTaken 16 = .ok (.iload_n 1, 1) := by decide +kernel
theorem dX1_isTaken_17 : decode cX1_isTaken 17 = .ok (.if_icmp .ne 5, 3) := by decide +kernel
theorem dX1_isTaken_20 : decode cX1_isTaken 20 = .ok (.iconst 1, 1) := by decide +kernel
theorem dX1_isTaken_21 : decode cX1_isTaken 21 = .ok (.ireturn, 1) := by decide +kernel
theorem dX1_isTaken_22 : decode cX1_isTaken 22 = .ok (.iinc 2 1, 3) := by decide +kernel
theorem dX1_isTaken_25 : decode cX1_isTaken 25 = .ok (.goto (-23), 3) := by decide +kernel
theorem dX1_isTaken_28 : decode cX1_isTaken 28 = .ok (.iconst 0, 1) := by decide +kernel
theorem dX1_isTaken_29 : decode cX1_isTaken 29 = .ok (.ireturn, 1) := by decide +kernel
set_option maxRecDepth 20000 in
theorem ggX1_takeKey_X1_teeth : GoodIn wsX1_takeKey wsX1_teeth := goodIn_r _ [7] (by decide +kernel) (by decide +kernel)
set_option maxRecDepth 20000 in
theorem gX1_takeKey_X1_teeth : GoodIn wsX1_takeKey (va_wsS RX1 37 yX1_teeth wsX1_teeth) := goodIn_app (goodIn_of _ (by decide +kernel)) ggX1_takeKey_X1_teeth
theorem dX1_takeKey_0 : decode cX1_takeKey 0 = .ok (.aload_n 0, 1) := by decide +kernel
theorem dX1_takeKey_1 : decode cX1_takeKey 1 = .ok (.getfield 27, 3) := by decide +kernel
theorem dX1_takeKey_4 : decode cX1_takeKey 4 = .ok (.istore_n 2, 1) := by decide +kernel
theorem dX1_takeKey_5 : decode cX1_takeKey 5 = .ok (.aload_n 0, 1) := by decide +kernel
theorem dX1_takeKey_6 : decode cX1_takeKey 6 = .ok (.getfield 11, 3) := by decide +kernel
theorem dX1_takeKey_9 : decode cX1_takeKey 9 = .ok (.iload_n 2, 1) := by decide +kernel
theorem dX1_takeKey_10 : decode cX1_takeKey 10 = .ok (.iload_n 1, 1) := by decide +kernel
theorem dX1_takeKey_11 : decode cX1_takeKey 11 = .ok (.iastore, 1) := by decide +kernel
theorem dX1_takeKey_12 : decode cX1_takeKey 12 = .ok (.aload_n 0, 1) := by decide +kernel
theorem dX1_takeKey_13 : decode cX1_takeKey 13 = .ok (.getfield 15, 3) := by decide +kernel
theorem dX1_takeKey_16 : decode cX1_takeKey 16 = .ok (.iload_n 2, 1) := by decide +kernel
theorem dX1_takeKey_17 : decode cX1_takeKey 17 = .ok (.iload_n 1, 1) := by decide +kernel
theorem dX1_takeKey_18 : decode cX1_takeKey 18 = .ok (.invokestatic 37, 3) := by decide +kernel
theorem dX1_takeKey_21 : decode cX1_takeKey 21 = .ok (.iastore, 1) := by decide +kernel
theorem dX1_takeKey_22 : decode cX1_takeKey 22 = .ok (.aload_n 0, 1) := by decide +kernel
theorem dX1_takeKey_23 : decode cX1_takeKey 23 = .ok (.dup, 1) := by decide +kernel
theorem dX1_takeKey_24 : decode cX1_takeKey 24 = .ok (.getfield 27, 3) := by decide +kernel
theorem dX1_takeKey_27 : decode cX1_takeKey 27 = .ok (.iconst 1, 1) := by decide +kernel
theorem dX1_takeKey_28 : decode cX1_takeKey 28 = .ok (.iadd, 1) := by decide +kernel
theorem dX1_takeKey_29 : decode cX1_takeKey 29 = .ok (.putfield 27, 3) := by decide +kernel
theorem dX1_takeKey_32 : decode cX1_takeKey 32 = .ok (.iload_n 2, 1) := by decide +kernel
theorem dX1_takeKey_33 : decode cX1_takeKey 33 = .ok (.ireturn, 1) := by decide +kernel
set_option maxRecDepth 20000 in
theorem ggX1_takeDoor_X1_giveRights : GoodIn wsX1_takeDoor wsX1_giveRights := goodIn_r _ [6, 7, 8, 9, 10, 5, 11, 12, 13, 14, 15, 16, 17, 18, 19, 20, 21, 22, 23, 24, 25, 26, 27, 28, 29, 30, 31, 32, 33, 34] (by decide +kernel) (by decide +kernel)
set_option maxRecDepth 20000 in
theorem gX1_takeDoor_X1_giveRights : GoodIn wsX1_takeDoor (wsV RX1 41 RX1 yX1_giveRights wsX1_giveRights) := goodIn_app (goodIn_of _ (by decide +kernel)) ggX1_takeDoor_X1_giveRights
theorem dX1_takeDoor_0 : decode cX1_takeDoor 0 = .ok (.aload_n 0, 1) := by decide +kernel
theorem dX1_takeDoor_1 : decode cX1_takeDoor 1 = .ok (.getfield 31, 3) := by decide +kernel
theorem dX1_takeDoor_4 : decode cX1_takeDoor 4 = .ok (.istore_n 2, 1) := by decide +kernel
theorem dX1_takeDoor_5 : decode cX1_takeDoor 5 = .ok (.aload_n 0, 1) := by decide +kernel
theorem dX1_takeDoor_6 : decode cX1_takeDoor 6 = .ok (.dup, 1) := by decide +kernel
theorem dX1_takeDoor_7 : decode cX1_takeDoor 7 = .ok (.getfield 31, 3) := by decide +kernel
theorem dX1_takeDoor_10 : decode cX1_takeDoor 10 = .ok (.iconst 1, 1) := by decide +kernel
theorem dX1_takeDoor_11 : decode cX1_takeDoor 11 = .ok (.iadd, 1) := by decide +kernel
theorem dX1_takeDoor_12 : decode cX1_takeDoor 12 = .ok (.putfield 31, 3) := by decide +kernel
theorem dX1_takeDoor_15 : decode cX1_takeDoor 15 = .ok (.aload_n 0, 1) := by decide +kernel
theorem dX1_takeDoor_16 : decode cX1_takeDoor 16 = .ok (.iload_n 2, 1) := by decide +kernel
theorem dX1_takeDoor_17 : decode cX1_takeDoor 17 = .ok (.iload_n 1, 1) := by decide +kernel
theorem dX1_takeDoor_18 : decode cX1_takeDoor 18 = .ok (.invokevirtual 41, 3) := by decide +kernel
theorem dX1_takeDoor_21 : decode cX1_takeDoor 21 = .ok (.iload_n 2, 1) := by decide +kernel
theorem dX1_takeDoor_22 : decode cX1_takeDoor 22 = .ok (.ireturn, 1) := by decide +kernel
set_option maxRecDepth 20000 in
theorem ggX1_giveRights_X1_changePins : GoodIn wsX1_giveRights wsX1_changePins := goodIn_r _ [6, 7, 1, 8, 9, 10, 11, 5, 12, 13, 14, 15, 16, 17, 18, 19, 20, 21, 22, 23, 24, 25, 26, 27, 28, 29] (by decide +kernel) (by decide +kernel)
set_option maxRecDepth 20000 in
theorem gX1_giveRights_X1_changePins : GoodIn wsX1_giveRights (wsV RX1 45 RX1 yX1_changePins wsX1_changePins) := goodIn_app (goodIn_of _ (by decide +kernel)) ggX1_giveRights_X1_changePins
theorem dX1_giveRights_0 : decode cX1_giveRights 0 = .ok (.aload_n 0, 1) := by decide +kernel
theorem dX1_giveRights_1 : decode cX1_giveRights 1 = .ok (.getfield 18, 3) := by decide +kernel
theorem dX1_giveRights_4 : decode cX1_giveRights 4 = .ok (.iload_n 1, 1) := by decide +kernel
theorem dX1_giveRights_5 : decode cX1_giveRights 5 = .ok (.iload_n 2, 1) := by decide +kernel
theorem dX1_giveRights_6 : decode cX1_giveRights 6 = .ok (.iastore, 1) := by decide +kernel
theorem dX1_giveRights_7 : decode cX1_giveRights 7 = .ok (.aload_n 0, 1) := by decide +kernel
theorem dX1_giveRights_8 : decode cX1_giveRights 8 = .ok (.iload_n 1, 1) := by decide +kernel
theorem dX1_giveRights_9 : decode cX1_giveRights 9 = .ok (.invokevirtual 45, 3) := by decide +kernel
theorem dX1_giveRights_12 : decode cX1_giveRights 12 = .ok (.return_, 1) := by decide +kernel
set_option maxRecDepth 20000 in
theorem ggX1_giveCode_X1_teeth : GoodIn wsX1_giveCode wsX1_teeth := goodIn_r _ [7] (by decide +kernel) (by decide +kernel)
set_option maxRecDepth 20000 in
theorem gX1_giveCode_X1_teeth : GoodIn wsX1_giveCode (va_wsS RX1 37 yX1_teeth wsX1_teeth) := goodIn_app (goodIn_of _ (by decide +kernel)) ggX1_giveCode_X1_teeth
set_option maxRecDepth 20000 in
theorem ggX1_giveCode_X1_changePins : GoodIn wsX1_giveCode wsX1_changePins := goodIn_r _ [11, 12, 13, 14, 15, 16, 17, 6, 18, 19, 2, 20, 21, 22, 23, 24, 25, 26, 27, 28, 29, 30, 31, 32, 33, 34] (by decide +kernel) (by decide +kernel)
set_option maxRecDepth 20000 in
theorem gX1_giveCode_X1_changePins : GoodIn wsX1_giveCode (wsV RX1 45 RX1 yX1_changePins wsX1_changePins) := goodIn_app (goodIn_of _ (by decide +kernel)) ggX1_giveCode_X1_changePins
theorem dX1_giveCode_0 : decode cX1_giveCode 0 = .ok (.aload_n 0, 1) := by decide +kernel
theorem dX1_giveCode_1 : decode cX1_giveCode 1 = .ok (.getfield 11, 3) := by decide +kernel
theorem dX1_giveCode_4 : decode cX1_giveCode 4 = .ok (.iload_n 1, 1) := by decide +kernel
theorem dX1_giveCode_5 : decode cX1_giveCode 5 = .ok (.iload_n 2, 1) := by decide +kernel
theorem dX1_giveCode_6 : decode cX1_giveCode 6 = .ok (.iastore, 1) := by decide +kernel
theorem dX1_giveCode_7 : decode cX1_giveCode 7 = .ok (.aload_n 0, 1) := by decide +kernel
theorem dX1_giveCode_8 : decode cX1_giveCode 8 = .ok (.getfield 15, 3) := by decide +kernel
theorem dX1_giveCode_11 : decode cX1_giveCode 11 = .ok (.iload_n 1, 1) := by decide +kernel
theorem dX1_giveCode_12 : decode cX1_giveCode 12 = .ok (.iload_n 2, 1) := by decide +kernel
theorem dX1_giveCode_13 : decode cX1_giveCode 13 = .ok (.invokestatic 37, 3) := by decide +kernel
theorem dX1_giveCode_16 : decode cX1_giveCode 16 = .ok (.iastore, 1) := by decide +kernel
theorem dX1_giveCode_17 : decode cX1_giveCode 17 = .ok (.iconst 0, 1) := by decide +kernel
theorem dX1_giveCode_18 : decode cX1_giveCode 18 = .ok (.istore_n 3, 1) := by decide +kernel
theorem dX1_giveCode_19 : decode cX1_giveCode 19 = .ok (.iload_n 3, 1) := by decide +kernel
theorem dX1_giveCode_20 : decode cX1_giveCode 20 = .ok (.aload_n 0, 1) := by decide +kernel
theorem dX1_giveCode_21 : decode cX1_giveCode 21 = .ok (.getfield 31, 3) := by decide +kernel
theorem dX1_giveCode_24 : decode cX1_giveCode 24 = .ok (.if_icmp .ge 14, 3) := by decide +kernel
theorem dX1_giveCode_27 : decode cX1_giveCode 27 = .ok (.aload_n 0, 1) := by decide +kernel
theorem dX1_giveCode_28 : decode cX1_giveCode 28 = .ok (.iload_n 3, 1) := by decide +kernel
theorem dX1_giveCode_29 : decode cX1_giveCode 29 = .ok (.invokevirtual 45, 3) := by decide +kernel
theorem dX1_giveCode_32 : decode cX1_giveCode 32 = .ok (.iinc 3 1, 3) := by decide +kernel
theorem dX1_giveCode_35 : decode cX1_giveCode 35 = .ok (.goto (-16), 3) := by decide +kernel
theorem dX1_giveCode_38 : decode cX1_giveCode 38 = .ok (.return_, 1) := by decide +kernel
set_option maxRecDepth 20000 in
theorem ggX1_changePins_X1_pinsFor : GoodIn wsX1_changePins wsX1_pinsFor := goodIn_r _ [8, 9, 10, 18, 19, 20, 21, 22, 23, 24, 25] (by decide +kernel) (by decide +kernel)
set_option maxRecDepth 20000 in
theorem gX1_changePins_X1_pinsFor : GoodIn wsX1_changePins (wsV RX1 49 RX1 yX1_pinsFor wsX1_pinsFor) := goodIn_app (goodIn_of _ (by decide +kernel)) ggX1_changePins_X1_pinsFor
set_option maxRecDepth 20000 in
theorem ggX1_changePins_J6_bitCount_0f7a4 : GoodIn wsX1_changePins wsJ6_bitCount_0f7a4 := goodIn_r _ [14, 15, 16, 17] (by decide +kernel) (by decide +kernel)
set_option maxRecDepth 20000 in
theorem gX1_changePins_J6_bitCount_0f7a4 : GoodIn wsX1_changePins (va_wsS RX1 52 yJ6_bitCount_0f7a4 wsJ6_bitCount_0f7a4) := goodIn_app (goodIn_of _ (by decide +kernel)) ggX1_changePins_J6_bitCount_0f7a4
theorem dX1_changePins_0 : decode cX1_changePins 0 = .ok (.aload_n 0, 1) := by decide +kernel
theorem dX1_changePins_1 : decode cX1_changePins 1 = .ok (.getfield 21, 3) := by decide +kernel
theorem dX1_changePins_4 : decode cX1_changePins 4 = .ok (.iload_n 1, 1) := by decide +kernel
theorem dX1_changePins_5 : decode cX1_changePins 5 = .ok (.iaload, 1) := by decide +kernel
theorem dX1_changePins_6 : decode cX1_changePins 6 = .ok (.istore_n 2, 1) := by decide +kernel
theorem dX1_changePins_7 : decode cX1_changePins 7 = .ok (.aload_n 0, 1) := by decide +kernel
theorem dX1_changePins_8 : decode cX1_changePins 8 = .ok (.getfield 21, 3) := by decide +kernel
theorem dX1_changePins_11 : decode cX1_changePins 11 = .ok (.iload_n 1, 1) := by decide +kernel
theorem dX1_changePins_12 : decode cX1_changePins 12 = .ok (.aload_n 0, 1) := by decide +kernel
theorem dX1_changePins_13 : decode cX1_changePins 13 = .ok (.aload_n 0, 1) := by decide +kernel
theorem dX1_changePins_14 : decode cX1_changePins 14 = .ok (.getfield 18, 3) := by decide +kernel
theorem dX1_changePins_17 : decode cX1_changePins 17 = .ok (.iload_n 1, 1) := by decide +kernel
theorem dX1_changePins_18 : decode cX1_changePins 18 = .ok (.iaload, 1) := by decide +kernel
theorem dX1_changePins_19 : decode cX1_changePins 19 = .ok (.invokevirtual 49, 3) := by decide +kernel
theorem dX1_changePins_22 : decode cX1_changePins 22 = .ok (.iastore, 1) := by decide +kernel
theorem dX1_changePins_23 : decode cX1_changePins 23 = .ok (.aload_n 0, 1) := by decide +kernel
theorem dX1_changePins_24 : decode cX1_changePins 24 = .ok (.dup, 1) := by decide +kernel
theorem dX1_changePins_25 : decode cX1_changePins 25 = .ok (.getfield 34, 3) := by decide +kernel
theorem dX1_changePins_28 : decode cX1_changePins 28 = .ok (.iload_n 2, 1) := by decide +kernel
theorem dX1_changePins_29 : decode cX1_changePins 29 = .ok (.aload_n 0, 1) := by decide +kernel
theorem dX1_changePins_30 : decode cX1_changePins 30 = .ok (.getfield 21, 3) := by decide +kernel
theorem dX1_changePins_33 : decode cX1_changePins 33 = .ok (.iload_n 1, 1) := by decide +kernel
theorem dX1_changePins_34 : decode cX1_changePins 34 = .ok (.iaload, 1) := by decide +kernel
theorem dX1_changePins_35 : decode cX1_changePins 35 = .ok (.ixor, 1) := by decide +kernel
theorem dX1_changePins_36 : decode cX1_changePins 36 = .ok (.invokestatic 52, 3) := by decide +kernel
theorem dX1_changePins_39 : decode cX1_changePins 39 = .ok (.iadd, 1) := by decide +kernel
theorem dX1_changePins_40 : decode cX1_changePins 40 = .ok (.putfield 34, 3) := by decide +kernel
theorem dX1_changePins_43 : decode cX1_changePins 43 = .ok (.return_, 1) := by decide +kernel
theorem dX1_pinsFor_0 : decode cX1_pinsFor 0 = .ok (.iconst 0, 1) := by decide +kernel
theorem dX1_pinsFor_1 : decode cX1_pinsFor 1 = .ok (.istore_n 2, 1) := by decide +kernel
theorem dX1_pinsFor_2 : decode cX1_pinsFor 2 = .ok (.iconst 0, 1) := by decide +kernel
theorem dX1_pinsFor_3 : decode cX1_pinsFor 3 = .ok (.istore_n 3, 1) := by decide +kernel
theorem dX1_pinsFor_4 : decode cX1_pinsFor 4 = .ok (.iload_n 3, 1) := by decide +kernel
theorem dX1_pinsFor_5 : decode cX1_pinsFor 5 = .ok (.aload_n 0, 1) := by decide +kernel
theorem dX1_pinsFor_6 : decode cX1_pinsFor 6 = .ok (.getfield 27, 3) := by decide +kernel
theorem dX1_pinsFor_9 : decode cX1_pinsFor 9 = .ok (.if_icmp .ge 27, 3) := by decide +kernel
theorem dX1_pinsFor_12 : decode cX1_pinsFor 12 = .ok (.iload_n 1, 1) := by decide +kernel
theorem dX1_pinsFor_13 : decode cX1_pinsFor 13 = .ok (.iload_n 3, 1) := by decide +kernel
theorem dX1_pinsFor_14 : decode cX1_pinsFor 14 = .ok (.ishr, 1) := by decide +kernel
theorem dX1_pinsFor_15 : decode cX1_pinsFor 15 = .ok (.iconst 1, 1) := by decide +kernel
theorem dX1_pinsFor_16 : decode cX1_pinsFor 16 = .ok (.iand, 1) := by decide +kernel
theorem dX1_pinsFor_17 : decode cX1_pinsFor 17 = .ok (.iconst 1, 1) := by decide +kernel
theorem dX1_pinsFor_18 : decode cX1_pinsFor 18 = .ok (.if_icmp .ne 12, 3) := by decide +kernel
theorem dX1_pinsFor_21 : decode cX1_pinsFor 21 = .ok (.iload_n 2, 1) := by decide +kernel
theorem dX1_pinsFor_22 : decode cX1_pinsFor 22 = .ok (.aload_n 0, 1) := by decide +kernel
theorem dX1_pinsFor_23 : decode cX1_pinsFor 23 = .ok (.getfield 15, 3) := by decide +kernel
theorem dX1_pinsFor_26 : decode cX1_pinsFor 26 = .ok (.iload_n 3, 1) := by decide +kernel
theorem dX1_pinsFor_27 : decode cX1_pinsFor 27 = .ok (.iaload, 1) := by decide +kernel
theorem dX1_pinsFor_28 : decode cX1_pinsFor 28 = .ok (.ior, 1) := by decide +kernel
theorem dX1_pinsFor_29 : decode cX1_pinsFor 29 = .ok (.istore_n 2, 1) := by decide +kernel
theorem dX1_pinsFor_30 : decode cX1_pinsFor 30 = .ok (.iinc 3 1, 3) := by decide +kernel
theorem dX1_pinsFor_33 : decode cX1_pinsFor 33 = .ok (.goto (-29), 3) := by decide +kernel
theorem dX1_pinsFor_36 : decode cX1_pinsFor 36 = .ok (.iload_n 2, 1) := by decide +kernel
theorem dX1_pinsFor_37 : decode cX1_pinsFor 37 = .ok (.ireturn, 1) := by decide +kernel
theorem dX1_teeth_0 : decode cX1_teeth 0 = .ok (.iconst 0, 1) := by decide +kernel
theorem dX1_teeth_1 : decode cX1_teeth 1 = .ok (.istore_n 1, 1) := by decide +kernel
theorem dX1_teeth_2 : decode cX1_teeth 2 = .ok (.iconst 0, 1) := by decide +kernel
theorem dX1_teeth_3 : decode cX1_teeth 3 = .ok (.istore_n 2, 1) := by decide +kernel
theorem dX1_teeth_4 : decode cX1_teeth 4 = .ok (.iload_n 2, 1) := by decide +kernel
theorem dX1_teeth_5 : decode cX1_teeth 5 = .ok (.iconst 5, 1) := by decide +kernel
theorem dX1_teeth_6 : decode cX1_teeth 6 = .ok (.if_icmp .ge 29, 3) := by decide +kernel
theorem dX1_teeth_9 : decode cX1_teeth 9 = .ok (.iload_n 0, 1) := by decide +kernel
theorem dX1_teeth_10 : decode cX1_teeth 10 = .ok (.iconst 4, 1) := by decide +kernel
theorem dX1_teeth_11 : decode cX1_teeth 11 = .ok (.iload_n 2, 1) := by decide +kernel
theorem dX1_teeth_12 : decode cX1_teeth 12 = .ok (.isub, 1) := by decide +kernel
theorem dX1_teeth_13 : decode cX1_teeth 13 = .ok (.iconst 2, 1) := by decide +kernel
theorem dX1_teeth_14 : decode cX1_teeth 14 = .ok (.imul, 1) := by decide +kernel
theorem dX1_teeth_15 : decode cX1_teeth 15 = .ok (.ishr, 1) := by decide +kernel
theorem dX1_teeth_16 : decode cX1_teeth 16 = .ok (.iconst 3, 1) := by decide +kernel
theorem dX1_teeth_17 : decode cX1_teeth 17 = .ok (.iand, 1) := by decide +kernel
theorem dX1_teeth_18 : decode cX1_teeth 18 = .ok (.istore_n 3, 1) := by decide +kernel
theorem dX1_teeth_19 : decode cX1_teeth 19 = .ok (.iload_n 1, 1) := by decide +kernel
theorem dX1_teeth_20 : decode cX1_teeth 20 = .ok (.iconst 1, 1) := by decide +kernel
theorem dX1_teeth_21 : decode cX1_teeth 21 = .ok (.iload_n 2, 1) := by decide +kernel
theorem dX1_teeth_22 : decode cX1_teeth 22 = .ok (.iconst 4, 1) := by decide +kernel
theorem dX1_teeth_23 : decode cX1_teeth 23 = .ok (.imul, 1) := by decide +kernel
theorem dX1_teeth_24 : decode cX1_teeth 24 = .ok (.iload_n 3, 1) := by decide +kernel
theorem dX1_teeth_25 : decode cX1_teeth 25 = .ok (.iadd, 1) := by decide +kernel
theorem dX1_teeth_26 : decode cX1_teeth 26 = .ok (.ishl, 1) := by decide +kernel
theorem dX1_teeth_27 : decode cX1_teeth 27 = .ok (.ior, 1) := by decide +kernel
theorem dX1_teeth_28 : decode cX1_teeth 28 = .ok (.istore_n 1, 1) := by decide +kernel
theorem dX1_teeth_29 : decode cX1_teeth 29 = .ok (.iinc 2 1, 3) := by decide +kernel
theorem dX1_teeth_32 : decode cX1_teeth 32 = .ok (.goto (-28), 3) := by decide +kernel
theorem dX1_teeth_35 : decode cX1_teeth 35 = .ok (.iload_n 1, 1) := by decide +kernel
theorem dX1_teeth_36 : decode cX1_teeth 36 = .ok (.ireturn, 1) := by decide +kernel
theorem dX1_pinsAt_0 : decode cX1_pinsAt 0 = .ok (.aload_n 0, 1) := by decide +kernel
theorem dX1_pinsAt_1 : decode cX1_pinsAt 1 = .ok (.getfield 21, 3) := by decide +kernel
theorem dX1_pinsAt_4 : decode cX1_pinsAt 4 = .ok (.iload_n 1, 1) := by decide +kernel
theorem dX1_pinsAt_5 : decode cX1_pinsAt 5 = .ok (.iaload, 1) := by decide +kernel
theorem dX1_pinsAt_6 : decode cX1_pinsAt 6 = .ok (.iload_n 2, 1) := by decide +kernel
theorem dX1_pinsAt_7 : decode cX1_pinsAt 7 = .ok (.iconst 4, 1) := by decide +kernel
theorem dX1_pinsAt_8 : decode cX1_pinsAt 8 = .ok (.imul, 1) := by decide +kernel
theorem dX1_pinsAt_9 : decode cX1_pinsAt 9 = .ok (.ishr, 1) := by decide +kernel
theorem dX1_pinsAt_10 : decode cX1_pinsAt 10 = .ok (.bipush 15, 2) := by decide +kernel
theorem dX1_pinsAt_12 : decode cX1_pinsAt 12 = .ok (.iand, 1) := by decide +kernel
theorem dX1_pinsAt_13 : decode cX1_pinsAt 13 = .ok (.ireturn, 1) := by decide +kernel
set_option maxRecDepth 20000 in
theorem ggX1_keyOpens_X2_contains : GoodIn wsX1_keyOpens wsX2_contains := goodIn_r _ [5] (by decide +kernel) (by decide +kernel)
set_option maxRecDepth 20000 in
theorem gX1_keyOpens_X2_contains_n57 : GoodIn wsX1_keyOpens (wsX2_contains) := ggX1_keyOpens_X2_contains
theorem dX1_keyOpens_0 : decode cX1_keyOpens 0 = .ok (.aload_n 0, 1) := by decide +kernel
theorem dX1_keyOpens_1 : decode cX1_keyOpens 1 = .ok (.getfield 21, 3) := by decide +kernel
theorem dX1_keyOpens_4 : decode cX1_keyOpens 4 = .ok (.iload_n 2, 1) := by decide +kernel
theorem dX1_keyOpens_5 : decode cX1_keyOpens 5 = .ok (.iaload, 1) := by decide +kernel
theorem dX1_keyOpens_6 : decode cX1_keyOpens 6 = .ok (.aload_n 0, 1) := by decide +kernel
theorem dX1_keyOpens_7 : decode cX1_keyOpens 7 = .ok (.getfield 15, 3) := by decide +kernel
theorem dX1_keyOpens_10 : decode cX1_keyOpens 10 = .ok (.iload_n 1, 1) := by decide +kernel
theorem dX1_keyOpens_11 : decode cX1_keyOpens 11 = .ok (.iaload, 1) := by decide +kernel
theorem dX1_keyOpens_12 : decode cX1_keyOpens 12 = .ok (.invokestatic 57, 3) := by decide +kernel
theorem dX1_keyOpens_15 : decode cX1_keyOpens 15 = .ok (.ireturn, 1) := by decide +kernel
set_option maxRecDepth 20000 in
theorem ggX1_openersOf_X1_keyOpens : GoodIn wsX1_openersOf wsX1_keyOpens := goodIn_r _ [6, 7, 8, 9, 10, 11, 12, 13, 14, 15, 16, 17, 18, 19] (by decide +kernel) (by decide +kernel)
set_option maxRecDepth 20000 in
theorem gX1_openersOf_X1_keyOpens : GoodIn wsX1_openersOf (wsV RX1 61 RX1 yX1_keyOpens wsX1_keyOpens) := goodIn_app (goodIn_of _ (by decide +kernel)) ggX1_openersOf_X1_keyOpens
theorem dX1_openersOf_0 : decode cX1_openersOf 0 = .ok (.iconst 0, 1) := by decide +kernel
theorem dX1_openersOf_1 : decode cX1_openersOf 1 = .ok (.istore_n 2, 1) := by decide +kernel
theorem dX1_openersOf_2 : decode cX1_openersOf 2 = .ok (.iconst 0, 1) := by decide +kernel
theorem dX1_openersOf_3 : decode cX1_openersOf 3 = .ok (.istore_n 3, 1) := by decide +kernel
theorem dX1_openersOf_4 : decode cX1_openersOf 4 = .ok (.iload_n 3, 1) := by decide +kernel
theorem dX1_openersOf_5 : decode cX1_openersOf 5 = .ok (.aload_n 0, 1) := by decide +kernel
theorem dX1_openersOf_6 : decode cX1_openersOf 6 = .ok (.getfield 27, 3) := by decide +kernel
theorem dX1_openersOf_9 : decode cX1_openersOf 9 = .ok (.if_icmp .ge 24, 3) := by decide +kernel
theorem dX1_openersOf_12 : decode cX1_openersOf 12 = .ok (.aload_n 0, 1) := by decide +kernel
theorem dX1_openersOf_13 : decode cX1_openersOf 13 = .ok (.iload_n 3, 1) := by decide +kernel
theorem dX1_openersOf_14 : decode cX1_openersOf 14 = .ok (.iload_n 1, 1) := by decide +kernel
theorem dX1_openersOf_15 : decode cX1_openersOf 15 = .ok (.invokevirtual 61, 3) := by decide +kernel
theorem dX1_openersOf_18 : decode cX1_openersOf 18 = .ok (.ifCond .eq 9, 3) := by decide +kernel
theorem dX1_openersOf_21 : decode cX1_openersOf 21 = .ok (.iload_n 2, 1) := by decide +kernel
theorem dX1_openersOf_22 : decode cX1_openersOf 22 = .ok (.iconst 1, 1) := by decide +kernel
theorem dX1_openersOf_23 : decode cX1_openersOf 23 = .ok (.iload_n 3, 1) := by decide +kernel
theorem dX1_openersOf_24 : decode cX1_openersOf 24 = .ok (.ishl, 1) := by decide +kernel
theorem dX1_openersOf_25 : decode cX1_openersOf 25 = .ok (.ior, 1) := by decide +kernel
theorem dX1_openersOf_26 : decode cX1_openersOf 26 = .ok (.istore_n 2, 1) := by decide +kernel
theorem dX1_openersOf_27 : decode cX1_openersOf 27 = .ok (.iinc 3 1, 3) := by decide +kernel
theorem dX1_openersOf_30 : decode cX1_openersOf 30 = .ok (.goto (-26), 3) := by decide +kernel
theorem dX1_openersOf_33 : decode cX1_openersOf 33 = .ok (.iload_n 2, 1) := by decide +kernel
theorem dX1_openersOf_34 : decode cX1_openersOf 34 = .ok (.ireturn, 1) := by decide +kernel
set_option maxRecDepth 20000 in
theorem ggX1_doorsOf_X1_keyOpens : GoodIn wsX1_doorsOf wsX1_keyOpens := goodIn_r _ [6, 7, 8, 9, 10, 11, 12, 13, 14, 15, 16, 17, 18, 19] (by decide +kernel) (by decide +kernel)
set_option maxRecDepth 20000 in
theorem gX1_doorsOf_X1_keyOpens : GoodIn wsX1_doorsOf (wsV RX1 61 RX1 yX1_keyOpens wsX1_keyOpens) := goodIn_app (goodIn_of _ (by decide +kernel)) ggX1_doorsOf_X1_keyOpens
theorem dX1_doorsOf_0 : decode cX1_doorsOf 0 = .ok (.iconst 0, 1) := by decide +kernel
theorem dX1_doorsOf_1 : decode cX1_doorsOf 1 = .ok (.istore_n 2, 1) := by decide +kernel
theorem dX1_doorsOf_2 : decode cX1_doorsOf 2 = .ok (.iconst 0, 1) := by decide +kernel
theorem dX1_doorsOf_3 : decode cX1_doorsOf 3 = .ok (.istore_n 3, 1) := by decide +kernel
theorem dX1_doorsOf_4 : decode cX1_doorsOf 4 = .ok (.iload_n 3, 1) := by decide +kernel
theorem dX1_doorsOf_5 : decode cX1_doorsOf 5 = .ok (.aload_n 0, 1) := by decide +kernel
theorem dX1_doorsOf_6 : decode cX1_doorsOf 6 = .ok (.getfield 31, 3) := by decide +kernel
theorem dX1_doorsOf_9 : decode cX1_doorsOf 9 = .ok (.if_icmp .ge 24, 3) := by decide +kernel
theorem dX1_doorsOf_12 : decode cX1_doorsOf 12 = .ok (.aload_n 0, 1) := by decide +kernel
theorem dX1_doorsOf_13 : decode cX1_doorsOf 13 = .ok (.iload_n 1, 1) := by decide +kernel
theorem dX1_doorsOf_14 : decode cX1_doorsOf 14 = .ok (.iload_n 3, 1) := by decide +kernel
theorem dX1_doorsOf_15 : decode cX1_doorsOf 15 = .ok (.invokevirtual 61, 3) := by decide +kernel
theorem dX1_doorsOf_18 : decode cX1_doorsOf 18 = .ok (.ifCond .eq 9, 3) := by decide +kernel
theorem dX1_doorsOf_21 : decode cX1_doorsOf 21 = .ok (.iload_n 2, 1) := by decide +kernel
theorem dX1_doorsOf_22 : decode cX1_doorsOf 22 = .ok (.iconst 1, 1) := by decide +kernel
theorem dX1_doorsOf_23 : decode cX1_doorsOf 23 = .ok (.iload_n 3, 1) := by decide +kernel
theorem dX1_doorsOf_24 : decode cX1_doorsOf 24 = .ok (.ishl, 1) := by decide +kernel
theorem dX1_doorsOf_25 : decode cX1_doorsOf 25 = .ok (.ior, 1) := by decide +kernel
theorem dX1_doorsOf_26 : decode cX1_doorsOf 26 = .ok (.istore_n 2, 1) := by decide +kernel
theorem dX1_doorsOf_27 : decode cX1_doorsOf 27 = .ok (.iinc 3 1, 3) := by decide +kernel
theorem dX1_doorsOf_30 : decode cX1_doorsOf 30 = .ok (.goto (-26), 3) := by decide +kernel
theorem dX1_doorsOf_33 : decode cX1_doorsOf 33 = .ok (.iload_n 2, 1) := by decide +kernel
theorem dX1_doorsOf_34 : decode cX1_doorsOf 34 = .ok (.ireturn, 1) := by decide +kernel
set_option maxRecDepth 20000 in
theorem ggX1_countStrays_X1_openersOf : GoodIn wsX1_countStrays wsX1_openersOf := goodIn_r _ [7, 8, 9, 10, 11, 6, 12, 13, 14, 15, 16, 17, 25, 26, 27, 28, 29, 30, 31, 32] (by decide +kernel) (by decide +kernel)
set_option maxRecDepth 20000 in
theorem gX1_countStrays_X1_openersOf : GoodIn wsX1_countStrays (wsV RX1 67 RX1 yX1_openersOf wsX1_openersOf) := goodIn_app (goodIn_of _ (by decide +kernel)) ggX1_countStrays_X1_openersOf
set_option maxRecDepth 20000 in
theorem ggX1_countStrays_J6_bitCount_0f7a4 : GoodIn wsX1_countStrays wsJ6_bitCount_0f7a4 := goodIn_r _ [21, 22, 23, 24] (by decide +kernel) (by decide +kernel)
set_option maxRecDepth 20000 in
theorem gX1_countStrays_J6_bitCount_0f7a4 : GoodIn wsX1_countStrays (va_wsS RX1 52 yJ6_bitCount_0f7a4 wsJ6_bitCount_0f7a4) := goodIn_app (goodIn_of _ (by decide +kernel)) ggX1_countStrays_J6_bitCount_0f7a4
theorem dX1_countStrays_0 : decode cX1_countStrays 0 = .ok (.iconst 0, 1) := by decide +kernel
theorem dX1_countStrays_1 : decode cX1_countStrays 1 = .ok (.istore_n 1, 1) := by decide +kernel
theorem dX1_countStrays_2 : decode cX1_countStrays 2 = .ok (.iconst 0, 1) := by decide +kernel
theorem dX1_countStrays_3 : decode cX1_countStrays 3 = .ok (.istore_n 2, 1) := by decide +kernel
theorem dX1_countStrays_4 : decode cX1_countStrays 4 = .ok (.iload_n 2, 1) := by decide +kernel
theorem dX1_countStrays_5 : decode cX1_countStrays 5 = .ok (.aload_n 0, 1) := by decide +kernel
theorem dX1_countStrays_6 : decode cX1_countStrays 6 = .ok (.getfield 31, 3) := by decide +kernel
theorem dX1_countStrays_9 : decode cX1_countStrays 9 = .ok (.if_icmp .ge 29, 3) := by decide +kernel
theorem dX1_countStrays_12 : decode cX1_countStrays 12 = .ok (.iload_n 1, 1) := by decide +kernel
theorem dX1_countStrays_13 : decode cX1_countStrays 13 = .ok (.aload_n 0, 1) := by decide +kernel
theorem dX1_countStrays_14 : decode cX1_countStrays 14 = .ok (.iload_n 2, 1) := by decide +kernel
theorem dX1_countStrays_15 : decode cX1_countStrays 15 = .ok (.invokevirtual 67, 3) := by decide +kernel
theorem dX1_countStrays_18 : decode cX1_countStrays 18 = .ok (.aload_n 0, 1) := by decide +kernel
theorem dX1_countStrays_19 : decode cX1_countStrays 19 = .ok (.getfield 18, 3) := by decide +kernel
theorem dX1_countStrays_22 : decode cX1_countStrays 22 = .ok (.iload_n 2, 1) := by decide +kernel
theorem dX1_countStrays_23 : decode cX1_countStrays 23 = .ok (.iaload, 1) := by decide +kernel
theorem dX1_countStrays_24 : decode cX1_countStrays 24 = .ok (.iconst (-1), 1) := by decide +kernel
theorem dX1_countStrays_25 : decode cX1_countStrays 25 = .ok (.ixor, 1) := by decide +kernel
theorem dX1_countStrays_26 : decode cX1_countStrays 26 = .ok (.iand, 1) := by decide +kernel
theorem dX1_countStrays_27 : decode cX1_countStrays 27 = .ok (.invokestatic 52, 3) := by decide +kernel
theorem dX1_countStrays_30 : decode cX1_countStrays 30 = .ok (.iadd, 1) := by decide +kernel
theorem dX1_countStrays_31 : decode cX1_countStrays 31 = .ok (.istore_n 1, 1) := by decide +kernel
theorem dX1_countStrays_32 : decode cX1_countStrays 32 = .ok (.iinc 2 1, 3) := by decide +kernel
theorem dX1_countStrays_35 : decode cX1_countStrays 35 = .ok (.goto (-31), 3) := by decide +kernel
theorem dX1_countStrays_38 : decode cX1_countStrays 38 = .ok (.iload_n 1, 1) := by decide +kernel
theorem dX1_countStrays_39 : decode cX1_countStrays 39 = .ok (.ireturn, 1) := by decide +kernel
set_option maxRecDepth 20000 in
theorem ggX1_countCodes_X1_pinsAt : GoodIn wsX1_countCodes wsX1_pinsAt := goodIn_r _ [5, 6, 14, 15, 16, 17, 18, 19, 20, 21] (by decide +kernel) (by decide +kernel)
set_option maxRecDepth 20000 in
theorem gX1_countCodes_X1_pinsAt : GoodIn wsX1_countCodes (wsV RX1 70 RX1 yX1_pinsAt wsX1_pinsAt) := goodIn_app (goodIn_of _ (by decide +kernel)) ggX1_countCodes_X1_pinsAt
set_option maxRecDepth 20000 in
theorem ggX1_countCodes_J6_bitCount_0f7a4 : GoodIn wsX1_countCodes wsJ6_bitCount_0f7a4 := goodIn_r _ [10, 11, 12, 13] (by decide +kernel) (by decide +kernel)
set_option maxRecDepth 20000 in
theorem gX1_countCodes_J6_bitCount_0f7a4 : GoodIn wsX1_countCodes (va_wsS RX1 52 yJ6_bitCount_0f7a4 wsJ6_bitCount_0f7a4) := goodIn_app (goodIn_of _ (by decide +kernel)) ggX1_countCodes_J6_bitCount_0f7a4
theorem dX1_countCodes_0 : decode cX1_countCodes 0 = .ok (.iconst 1, 1) := by decide +kernel
theorem dX1_countCodes_1 : decode cX1_countCodes 1 = .ok (.istore_n 2, 1) := by decide +kernel
theorem dX1_countCodes_2 : decode cX1_countCodes 2 = .ok (.iconst 0, 1) := by decide +kernel
theorem dX1_countCodes_3 : decode cX1_countCodes 3 = .ok (.istore_n 3, 1) := by decide +kernel
theorem dX1_countCodes_4 : decode cX1_countCodes 4 = .ok (.iload_n 3, 1) := by decide +kernel
theorem dX1_countCodes_5 : decode cX1_countCodes 5 = .ok (.iconst 5, 1) := by decide +kernel
theorem dX1_countCodes_6 : decode cX1_countCodes 6 = .ok (.if_icmp .ge 21, 3) := by decide +kernel
theorem dX1_countCodes_9 : decode cX1_countCodes 9 = .ok (.iload_n 2, 1) := by decide +kernel
theorem dX1_countCodes_10 : decode cX1_countCodes 10 = .ok (.aload_n 0, 1) := by decide +kernel
theorem dX1_countCodes_11 : decode cX1_countCodes 11 = .ok (.iload_n 1, 1) := by decide +kernel
theorem dX1_countCodes_12 : decode cX1_countCodes 12 = .ok (.iload_n 3, 1) := by decide +kernel
theorem dX1_countCodes_13 : decode cX1_countCodes 13 = .ok (.invokevirtual 70, 3) := by decide +kernel
theorem dX1_countCodes_16 : decode cX1_countCodes 16 = .ok (.invokestatic 52, 3) := by decide +kernel
theorem dX1_countCodes_19 : decode cX1_countCodes 19 = .ok (.imul, 1) := by decide +kernel
theorem dX1_countCodes_20 : decode cX1_countCodes 20 = .ok (.istore_n 2, 1) := by decide +kernel
theorem dX1_countCodes_21 : decode cX1_countCodes 21 = .ok (.iinc 3 1, 3) := by decide +kernel
theorem dX1_countCodes_24 : decode cX1_countCodes 24 = .ok (.goto (-20), 3) := by decide +kernel
theorem dX1_countCodes_27 : decode cX1_countCodes 27 = .ok (.iload_n 2, 1) := by decide +kernel
theorem dX1_countCodes_28 : decode cX1_countCodes 28 = .ok (.ireturn, 1) := by decide +kernel
set_option maxRecDepth 20000 in
theorem ggX1_bestCodeFor_X1_pinsFor : GoodIn wsX1_bestCodeFor wsX1_pinsFor := goodIn_r _ [8, 9, 10, 46, 47, 48, 49, 50, 51, 52, 53] (by decide +kernel) (by decide +kernel)
set_option maxRecDepth 20000 in
theorem gX1_bestCodeFor_X1_pinsFor : GoodIn wsX1_bestCodeFor (wsV RX1 49 RX1 yX1_pinsFor wsX1_pinsFor) := goodIn_app (goodIn_of _ (by decide +kernel)) ggX1_bestCodeFor_X1_pinsFor
set_option maxRecDepth 20000 in
theorem ggX1_bestCodeFor_X1_teeth : GoodIn wsX1_bestCodeFor wsX1_teeth := goodIn_r _ [13] (by decide +kernel) (by decide +kernel)
set_option maxRecDepth 20000 in
theorem gX1_bestCodeFor_X1_teeth : GoodIn wsX1_bestCodeFor (va_wsS RX1 37 yX1_teeth wsX1_teeth) := goodIn_app (goodIn_of _ (by decide +kernel)) ggX1_bestCodeFor_X1_teeth
set_option maxRecDepth 20000 in
theorem ggX1_bestCodeFor_X1_isTaken : GoodIn wsX1_bestCodeFor wsX1_isTaken := goodIn_r _ [17, 9, 18, 46, 47, 48, 49, 50, 51, 52, 53] (by decide +kernel) (by decide +kernel)
set_option maxRecDepth 20000 in
theorem gX1_bestCodeFor_X1_isTaken : GoodIn wsX1_bestCodeFor (wsV RX1 74 RX1 yX1_isTaken wsX1_isTaken) := goodIn_app (goodIn_of _ (by decide +kernel)) ggX1_bestCodeFor_X1_isTaken
set_option maxRecDepth 20000 in
theorem ggX1_bestCodeFor_X1_oldCodeOpens : GoodIn wsX1_bestCodeFor wsX1_oldCodeOpens := goodIn_r _ [22, 1, 10, 23, 24, 25, 7, 26, 3, 2, 27, 28, 29, 46, 47, 48, 49, 50, 51, 52, 53] (by decide +kernel) (by decide +kernel)
set_option maxRecDepth 20000 in
theorem gX1_bestCodeFor_X1_oldCodeOpens : GoodIn wsX1_bestCodeFor (wsV RX1 78 RX1 yX1_oldCodeOpens wsX1_oldCodeOpens) := goodIn_app (goodIn_of _ (by decide +kernel)) ggX1_bestCodeFor_X1_oldCodeOpens
set_option maxRecDepth 20000 in
theorem ggX1_bestCodeFor_X1_straysWith : GoodIn wsX1_bestCodeFor wsX1_straysWith := goodIn_r _ [33, 1, 9, 3, 10, 23, 24, 25, 7, 26, 2, 27, 28, 29, 46, 47, 48, 49, 50, 51, 52, 53] (by decide +kernel) (by decide +kernel)
set_option maxRecDepth 20000 in
theorem gX1_bestCodeFor_X1_straysWith : GoodIn wsX1_bestCodeFor (wsV RX1 81 RX1 yX1_straysWith wsX1_straysWith) := goodIn_app (goodIn_of _ (by decide +kernel)) ggX1_bestCodeFor_X1_straysWith
set_option maxRecDepth 20000 in
theorem ggX1_bestCodeFor_X1_workWith : GoodIn wsX1_bestCodeFor wsX1_workWith := goodIn_r _ [37, 1, 38, 23, 24, 25, 7, 26, 3, 2, 39, 40, 41, 42, 43, 44, 45, 46, 47, 48, 49, 50, 51, 52, 53] (by decide +kernel) (by decide +kernel)
set_option maxRecDepth 20000 in
theorem gX1_bestCodeFor_X1_workWith : GoodIn wsX1_bestCodeFor (wsV RX1 85 RX1 yX1_workWith wsX1_workWith) := goodIn_app (goodIn_of _ (by decide +kernel)) ggX1_bestCodeFor_X1_workWith
theorem dX1_bestCodeFor_0 : decode cX1_bestCodeFor 0 = .ok (.iconst 0, 1) := by decide +kernel
theorem dX1_bestCodeFor_1 : decode cX1_bestCodeFor 1 = .ok (.istore_n 2, 1) := by decide +kernel
theorem dX1_bestCodeFor_2 : decode cX1_bestCodeFor 2 = .ok (.iload_n 2, 1) := by decide +kernel
theorem dX1_bestCodeFor_3 : decode cX1_bestCodeFor 3 = .ok (.aload_n 0, 1) := by decide +kernel
theorem dX1_bestCodeFor_4 : decode cX1_bestCodeFor 4 = .ok (.getfield 31, 3) := by decide +kernel
theorem dX1_bestCodeFor_7 : decode cX1_bestCodeFor 7 = .ok (.if_icmp .ge 31, 3) := by decide +kernel
theorem dX1_bestCodeFor_10 : decode cX1_bestCodeFor 10 = .ok (.aload_n 0, 1) := by decide +kernel
theorem dX1_bestCodeFor_11 : decode cX1_bestCodeFor 11 = .ok (.getfield 24, 3) := by decide +kernel
theorem dX1_bestCodeFor_14 : decode cX1_bestCodeFor 14 = .ok (.iload_n 2, 1) := by decide +kernel
theorem dX1_bestCodeFor_15 : decode cX1_bestCodeFor 15 = .ok (.aload_n 0, 1) := by decide +kernel
theorem dX1_bestCodeFor_16 : decode cX1_bestCodeFor 16 = .ok (.aload_n 0, 1) := by decide +kernel
theorem dX1_bestCodeFor_17 : decode cX1_bestCodeFor 17 = .ok (.getfield 18, 3) := by decide +kernel
theorem dX1_bestCodeFor_20 : decode cX1_bestCodeFor 20 = .ok (.iload_n 2, 1) := by decide +kernel
theorem dX1_bestCodeFor_21 : decode cX1_bestCodeFor 21 = .ok (.iaload, 1) := by decide +kernel
theorem dX1_bestCodeFor_22 : decode cX1_bestCodeFor 22 = .ok (.iconst 1, 1) := by decide +kernel
theorem dX1_bestCodeFor_23 : decode cX1_bestCodeFor 23 = .ok (.iload_n 1, 1) := by decide +kernel
theorem dX1_bestCodeFor_24 : decode cX1_bestCodeFor 24 = .ok (.ishl, 1) := by decide +kernel
theorem dX1_bestCodeFor_25 : decode cX1_bestCodeFor 25 = .ok (.iconst (-1), 1) := by decide +kernel
theorem dX1_bestCodeFor_26 : decode cX1_bestCodeFor 26 = .ok (.ixor, 1) := by decide +kernel
theorem dX1_bestCodeFor_27 : decode cX1_bestCodeFor 27 = .ok (.iand, 1) := by decide +kernel
theorem dX1_bestCodeFor_28 : decode cX1_bestCodeFor 28 = .ok (.invokevirtual 49, 3) := by decide +kernel
theorem dX1_bestCodeFor_31 : decode cX1_bestCodeFor 31 = .ok (.iastore, 1) := by decide +kernel
theorem dX1_bestCodeFor_32 : decode cX1_bestCodeFor 32 = .ok (.iinc 2 1, 3) := by decide +kernel
theorem dX1_bestCodeFor_35 : decode cX1_bestCodeFor 35 = .ok (.goto (-33), 3) := by decide +kernel
theorem dX1_bestCodeFor_38 : decode cX1_bestCodeFor 38 = .ok (.iconst (-1), 1) := by decide +kernel
theorem dX1_bestCodeFor_39 : decode cX1_bestCodeFor 39 = .ok (.istore_n 2, 1) := by decide +kernel
theorem dX1_bestCodeFor_40 : decode cX1_bestCodeFor 40 = .ok (.bipush 64, 2) := by decide +kernel
theorem dX1_bestCodeFor_42 : decode cX1_bestCodeFor 42 = .ok (.istore_n 3, 1) := by decide +kernel
theorem dX1_bestCodeFor_43 : decode cX1_bestCodeFor 43 = .ok (.iconst 0, 1) := by decide +kernel
theorem dX1_bestCodeFor_44 : decode cX1_bestCodeFor 44 = .ok (.istore 4, 2) := by decide +kernel
theorem dX1_bestCodeFor_46 : decode cX1_bestCodeFor 46 = .ok (.iconst 0, 1) := by decide +kernel
theorem dX1_bestCodeFor_47 : decode cX1_bestCodeFor 47 = .ok (.istore 5, 2) := by decide +kernel
theorem dX1_bestCodeFor_49 : decode cX1_bestCodeFor 49 = .ok (.iload 5, 2) := by decide +kernel
theorem dX1_bestCodeFor_51 : decode cX1_bestCodeFor 51 = .ok (.sipush 1024, 3) := by decide +kernel
theorem dX1_bestCodeFor_54 : decode cX1_bestCodeFor 54 = .ok (.if_icmp .ge 94, 3) := by decide +kernel
theorem dX1_bestCodeFor_57 : decode cX1_bestCodeFor 57 = .ok (.iload 5, 2) := by decide +kernel
theorem dX1_bestCodeFor_59 : decode cX1_bestCodeFor 59 = .ok (.invokestatic 37, 3) := by decide +kernel
theorem dX1_bestCodeFor_62 : decode cX1_bestCodeFor 62 = .ok (.istore 6, 2) := by decide +kernel
theorem dX1_bestCodeFor_64 : decode cX1_bestCodeFor 64 = .ok (.aload_n 0, 1) := by decide +kernel
theorem dX1_bestCodeFor_65 : decode cX1_bestCodeFor 65 = .ok (.iload 5, 2) := by decide +kernel
theorem dX1_bestCodeFor_67 : decode cX1_bestCodeFor 67 = .ok (.invokevirtual 74, 3) := by decide +kernel
theorem dX1_bestCodeFor_70 : decode cX1_bestCodeFor 70 = .ok (.ifCond .ne 72, 3) := by decide +kernel
theorem dX1_bestCodeFor_73 : decode cX1_bestCodeFor 73 = .ok (.aload_n 0, 1) := by decide +kernel
theorem dX1_bestCodeFor_74 : decode cX1_bestCodeFor 74 = .ok (.iload_n 1, 1) := by decide +kernel
theorem dX1_bestCodeFor_75 : decode cX1_bestCodeFor 75 = .ok (.iload 6, 2) := by decide +kernel
theorem dX1_bestCodeFor_77 : decode cX1_bestCodeFor 77 = .ok (.invokevirtual 78, 3) := by decide +kernel
theorem dX1_bestCodeFor_80 : decode cX1_bestCodeFor 80 = .ok (.ifCond .eq 6, 3) := by decide +kernel
theorem dX1_bestCodeFor_83 : decode cX1_bestCodeFor 83 = .ok (.goto 59, 3) := by decide +kernel
theorem dX1_bestCodeFor_86 : decode cX1_bestCodeFor 86 = .ok (.aload_n 0, 1) := by decide +kernel
theorem dX1_bestCodeFor_87 : decode cX1_bestCodeFor 87 = .ok (.iload_n 1, 1) := by decide +kernel
theorem dX1_bestCodeFor_88 : decode cX1_bestCodeFor 88 = .ok (.iload 6, 2) := by decide +kernel
theorem dX1_bestCodeFor_90 : decode cX1_bestCodeFor 90 = .ok (.iload_n 3, 1) := by decide +kernel
theorem dX1_bestCodeFor_91 : decode cX1_bestCodeFor 91 = .ok (.invokevirtual 81, 3) := by decide +kernel
theorem dX1_bestCodeFor_94 : decode cX1_bestCodeFor 94 = .ok (.istore 7, 2) := by decide +kernel
theorem dX1_bestCodeFor_96 : decode cX1_bestCodeFor 96 = .ok (.iload 7, 2) := by decide +kernel
theorem dX1_bestCodeFor_98 : decode cX1_bestCodeFor 98 = .ok (.iload_n 3, 1) := by decide +kernel
theorem dX1_bestCodeFor_99 : decode cX1_bestCodeFor 99 = .ok (.if_icmp .le 6, 3) := by decide +kernel
theorem dX1_bestCodeFor_102 : decode cX1_bestCodeFor 102 = .ok (.goto 40, 3) := by decide +kernel
theorem dX1_bestCodeFor_105 : decode cX1_bestCodeFor 105 = .ok (.aload_n 0, 1) := by decide +kernel
theorem dX1_bestCodeFor_106 : decode cX1_bestCodeFor 106 = .ok (.iload_n 1, 1) := by decide +kernel
theorem dX1_bestCodeFor_107 : decode cX1_bestCodeFor 107 = .ok (.iload 6, 2) := by decide +kernel
theorem dX1_bestCodeFor_109 : decode cX1_bestCodeFor 109 = .ok (.invokevirtual 85, 3) := by decide +kernel
theorem dX1_bestCodeFor_112 : decode cX1_bestCodeFor 112 = .ok (.istore 8, 2) := by decide +kernel
theorem dX1_bestCodeFor_114 : decode cX1_bestCodeFor 114 = .ok (.iload_n 2, 1) := by decide +kernel
theorem dX1_bestCodeFor_115 : decode cX1_bestCodeFor 115 = .ok (.iconst (-1), 1) := by decide +kernel
theorem dX1_bestCodeFor_116 : decode cX1_bestCodeFor 116 = .ok (.if_icmp .eq 16, 3) := by decide +kernel
theorem dX1_bestCodeFor_119 : decode cX1_bestCodeFor 119 = .ok (.iload 7, 2) := by decide +kernel
theorem dX1_bestCodeFor_121 : decode cX1_bestCodeFor 121 = .ok (.iload_n 3, 1) := by decide +kernel
theorem dX1_bestCodeFor_122 : decode cX1_bestCodeFor 122 = .ok (.if_icmp .lt 10, 3) := by decide +kernel
theorem dX1_bestCodeFor_125 : decode cX1_bestCodeFor 125 = .ok (.iload 8, 2) := by decide +kernel
theorem dX1_bestCodeFor_127 : decode cX1_bestCodeFor 127 = .ok (.iload 4, 2) := by decide +kernel
theorem dX1_bestCodeFor_129 : decode cX1_bestCodeFor 129 = .ok (.if_icmp .ge 13, 3) := by decide +kernel
theorem dX1_bestCodeFor_132 : decode cX1_bestCodeFor 132 = .ok (.iload 5, 2) := by decide +kernel
theorem dX1_bestCodeFor_134 : decode cX1_bestCodeFor 134 = .ok (.istore_n 2, 1) := by decide +kernel
theorem dX1_bestCodeFor_135 : decode cX1_bestCodeFor 135 = .ok (.iload 7, 2) := by decide +kernel
theorem dX1_bestCodeFor_137 : decode cX1_bestCodeFor 137 = .ok (.istore_n 3, 1) := by decide +kernel
theorem dX1_bestCodeFor_138 : decode cX1_bestCodeFor 138 = .ok (.iload 8, 2) := by decide +kernel
theorem dX1_bestCodeFor_140 : decode cX1_bestCodeFor 140 = .ok (.istore 4, 2) := by decide +kernel
theorem dX1_bestCodeFor_142 : decode cX1_bestCodeFor 142 = .ok (.iinc 5 1, 3) := by decide +kernel
theorem dX1_bestCodeFor_145 : decode cX1_bestCodeFor 145 = .ok (.goto (-96), 3) := by decide +kernel
theorem dX1_bestCodeFor_148 : decode cX1_bestCodeFor 148 = .ok (.iload_n 2, 1) := by decide +kernel
theorem dX1_bestCodeFor_149 : decode cX1_bestCodeFor 149 = .ok (.ireturn, 1) := by decide +kernel
theorem dX1_pinsWith_0 : decode cX1_pinsWith 0 = .ok (.aload_n 0, 1) := by decide +kernel
theorem dX1_pinsWith_1 : decode cX1_pinsWith 1 = .ok (.getfield 18, 3) := by decide +kernel
theorem dX1_pinsWith_4 : decode cX1_pinsWith 4 = .ok (.iload_n 3, 1) := by decide +kernel
theorem dX1_pinsWith_5 : decode cX1_pinsWith 5 = .ok (.iaload, 1) := by decide +kernel
theorem dX1_pinsWith_6 : decode cX1_pinsWith 6 = .ok (.iload_n 1, 1) := by decide +kernel
theorem dX1_pinsWith_7 : decode cX1_pinsWith 7 = .ok (.ishr, 1) := by decide +kernel
theorem dX1_pinsWith_8 : decode cX1_pinsWith 8 = .ok (.iconst 1, 1) := by decide +kernel
theorem dX1_pinsWith_9 : decode cX1_pinsWith 9 = .ok (.iand, 1) := by decide +kernel
theorem dX1_pinsWith_10 : decode cX1_pinsWith 10 = .ok (.iconst 1, 1) := by decide +kernel
theorem dX1_pinsWith_11 : decode cX1_pinsWith 11 = .ok (.if_icmp .ne 7, 3) := by decide +kernel
theorem dX1_pinsWith_14 : decode cX1_pinsWith 14 = .ok (.iconst 1, 1) := by decide +kernel
theorem dX1_pinsWith_15 : decode cX1_pinsWith 15 = .ok (.goto 4, 3) := by decide +kernel
theorem dX1_pinsWith_18 : decode cX1_pinsWith 18 = .ok (.iconst 0, 1) := by decide +kernel
theorem dX1_pinsWith_19 : decode cX1_pinsWith 19 = .ok (.istore 4, 2) := by decide +kernel
theorem dX1_pinsWith_21 : decode cX1_pinsWith 21 = .ok (.iload 4, 2) := by decide +kernel
theorem dX1_pinsWith_23 : decode cX1_pinsWith 23 = .ok (.ifCond .eq 14, 3) := by decide +kernel
theorem dX1_pinsWith_26 : decode cX1_pinsWith 26 = .ok (.aload_n 0, 1) := by decide +kernel
theorem dX1_pinsWith_27 : decode cX1_pinsWith 27 = .ok (.getfield 24, 3) := by decide +kernel
theorem dX1_pinsWith_30 : decode cX1_pinsWith 30 = .ok (.iload_n 3, 1) := by decide +kernel
theorem dX1_pinsWith_31 : decode cX1_pinsWith 31 = .ok (.iaload, 1) := by decide +kernel
theorem dX1_pinsWith_32 : decode cX1_pinsWith 32 = .ok (.iload_n 2, 1) := by decide +kernel
theorem dX1_pinsWith_33 : decode cX1_pinsWith 33 = .ok (.ior, 1) := by decide +kernel
theorem dX1_pinsWith_34 : decode cX1_pinsWith 34 = .ok (.goto 9, 3) := by decide +kernel
theorem dX1_pinsWith_37 : decode cX1_pinsWith 37 = .ok (.aload_n 0, 1) := by decide +kernel
theorem dX1_pinsWith_38 : decode cX1_pinsWith 38 = .ok (.getfield 24, 3) := by decide +kernel
theorem dX1_pinsWith_41 : decode cX1_pinsWith 41 = .ok (.iload_n 3, 1) := by decide +kernel
theorem dX1_pinsWith_42 : decode cX1_pinsWith 42 = .ok (.iaload, 1) := by decide +kernel
theorem dX1_pinsWith_43 : decode cX1_pinsWith 43 = .ok (.ireturn, 1) := by decide +kernel
set_option maxRecDepth 20000 in
theorem ggX1_oldCodeOpens_X1_pinsWith : GoodIn wsX1_oldCodeOpens wsX1_pinsWith := goodIn_r _ [7, 8, 9, 13, 14, 15, 16, 17, 18, 19, 20] (by decide +kernel) (by decide +kernel)
set_option maxRecDepth 20000 in
theorem gX1_oldCodeOpens_X1_pinsWith : GoodIn wsX1_oldCodeOpens (wsV RX1 88 RX1 yX1_pinsWith wsX1_pinsWith) := goodIn_app (goodIn_of _ (by decide +kernel)) ggX1_oldCodeOpens_X1_pinsWith
set_option maxRecDepth 20000 in
theorem ggX1_oldCodeOpens_X2_contains : GoodIn wsX1_oldCodeOpens wsX2_contains := goodIn_r _ [12] (by decide +kernel) (by decide +kernel)
set_option maxRecDepth 20000 in
theorem gX1_oldCodeOpens_X2_contains_n57 : GoodIn wsX1_oldCodeOpens (wsX2_contains) := ggX1_oldCodeOpens_X2_contains
theorem dX1_oldCodeOpens_0 : decode cX1_oldCodeOpens 0 = .ok (.iconst 0, 1) := by decide +kernel
theorem dX1_oldCodeOpens_1 : decode cX1_oldCodeOpens 1 = .ok (.istore_n 3, 1) := by decide +kernel
theorem dX1_oldCodeOpens_2 : decode cX1_oldCodeOpens 2 = .ok (.iload_n 3, 1) := by decide +kernel
theorem dX1_oldCodeOpens_3 : decode cX1_oldCodeOpens 3 = .ok (.aload_n 0, 1) := by decide +kernel
theorem dX1_oldCodeOpens_4 : decode cX1_oldCodeOpens 4 = .ok (.getfield 31, 3) := by decide +kernel
theorem dX1_oldCodeOpens_7 : decode cX1_oldCodeOpens 7 = .ok (.if_icmp .ge 30, 3) := by decide +kernel
theorem dX1_oldCodeOpens_10 : decode cX1_oldCodeOpens 10 = .ok (.aload_n 0, 1) := by decide +kernel
theorem dX1_oldCodeOpens_11 : decode cX1_oldCodeOpens 11 = .ok (.iload_n 1, 1) := by decide +kernel
theorem dX1_oldCodeOpens_12 : decode cX1_oldCodeOpens 12 = .ok (.iload_n 2, 1) := by decide +kernel
theorem dX1_oldCodeOpens_13 : decode cX1_oldCodeOpens 13 = .ok (.iload_n 3, 1) := by decide +kernel
theorem dX1_oldCodeOpens_14 : decode cX1_oldCodeOpens 14 = .ok (.invokevirtual 88, 3) := by decide +kernel
theorem dX1_oldCodeOpens_17 : decode cX1_oldCodeOpens 17 = .ok (.aload_n 0, 1) := by decide +kernel
theorem dX1_oldCodeOpens_18 : decode cX1_oldCodeOpens 18 = .ok (.getfield 15, 3) := by decide +kernel
theorem dX1_oldCodeOpens_21 : decode cX1_oldCodeOpens 21 = .ok (.iload_n 1, 1) := by decide +kernel
theorem dX1_oldCodeOpens_22 : decode cX1_oldCodeOpens 22 = .ok (.iaload, 1) := by decide +kernel
theorem dX1_oldCodeOpens_23 : decode cX1_oldCodeOpens 23 = .ok (.invokestatic 57, 3) := by decide +kernel
theorem dX1_oldCodeOpens_26 : decode cX1_oldCodeOpens 26 = .ok (.ifCond .eq 5, 3) := by decide +kernel
theorem dX1_oldCodeOpens_29 : decode cX1_oldCodeOpens 29 = .ok (.iconst 1, 1) := by decide +kernel
theorem dX1_oldCodeOpens_30 : decode cX1_oldCodeOpens 30 = .ok (.ireturn, 1) := by decide +kernel
theorem dX1_oldCodeOpens_31 : decode cX1_oldCodeOpens 31 = .ok (.iinc 3 1, 3) := by decide +kernel
theorem dX1_oldCodeOpens_34 : decode cX1_oldCodeOpens 34 = .ok (.goto (-32), 3) := by decide +kernel
theorem dX1_oldCodeOpens_37 : decode cX1_oldCodeOpens 37 = .ok (.iconst 0, 1) := by decide +kernel
theorem dX1_oldCodeOpens_38 : decode cX1_oldCodeOpens 38 = .ok (.ireturn, 1) := by decide +kernel
set_option maxRecDepth 20000 in
theorem ggX1_straysWith_X1_pinsWith : GoodIn wsX1_straysWith wsX1_pinsWith := goodIn_r _ [9, 3, 10, 14, 15, 16, 17, 18, 19, 20, 21] (by decide +kernel) (by decide +kernel)
set_option maxRecDepth 20000 in
theorem gX1_straysWith_X1_pinsWith : GoodIn wsX1_straysWith (wsV RX1 88 RX1 yX1_pinsWith wsX1_pinsWith) := goodIn_app (goodIn_of _ (by decide +kernel)) ggX1_straysWith_X1_pinsWith
set_option maxRecDepth 20000 in
theorem ggX1_straysWith_X2_contains : GoodIn wsX1_straysWith wsX2_contains := goodIn_r _ [13] (by decide +kernel) (by decide +kernel)
set_option maxRecDepth 20000 in
theorem gX1_straysWith_X2_contains_n57 : GoodIn wsX1_straysWith (wsX2_contains) := ggX1_straysWith_X2_contains
theorem dX1_straysWith_0 : decode cX1_straysWith 0 = .ok (.iconst 0, 1) := by decide +kernel
theorem dX1_straysWith_1 : decode cX1_straysWith 1 = .ok (.istore 4, 2) := by decide +kernel
theorem dX1_straysWith_3 : decode cX1_straysWith 3 = .ok (.iconst 0, 1) := by decide +kernel
theorem dX1_straysWith_4 : decode cX1_straysWith 4 = .ok (.istore 5, 2) := by decide +kernel
theorem dX1_straysWith_6 : decode cX1_straysWith 6 = .ok (.iload 5, 2) := by decide +kernel
theorem dX1_straysWith_8 : decode cX1_straysWith 8 = .ok (.aload_n 0, 1) := by decide +kernel
theorem dX1_straysWith_9 : decode cX1_straysWith 9 = .ok (.getfield 31, 3) := by decide +kernel
theorem dX1_straysWith_12 : decode cX1_straysWith 12 = .ok (.if_icmp .ge 99, 3) := by decide +kernel
theorem dX1_straysWith_15 : decode cX1_straysWith 15 = .ok (.iload 4, 2) := by decide +kernel
theorem dX1_straysWith_17 : decode cX1_straysWith 17 = .ok (.iload_n 3, 1) := by decide +kernel
theorem dX1_straysWith_18 : decode cX1_straysWith 18 = .ok (.if_icmp .gt 93, 3) := by decide +kernel
theorem dX1_straysWith_21 : decode cX1_straysWith 21 = .ok (.aload_n 0, 1) := by decide +kernel
theorem dX1_straysWith_22 : decode cX1_straysWith 22 = .ok (.iload_n 1, 1) := by decide +kernel
theorem dX1_straysWith_23 : decode cX1_straysWith 23 = .ok (.iload_n 2, 1) := by decide +kernel
theorem dX1_straysWith_24 : decode cX1_straysWith 24 = .ok (.iload 5, 2) := by decide +kernel
theorem dX1_straysWith_26 : decode cX1_straysWith 26 = .ok (.invokevirtual 88, 3) := by decide +kernel
theorem dX1_straysWith_29 : decode cX1_straysWith 29 = .ok (.istore 6, 2) := by decide +kernel
theorem dX1_straysWith_31 : decode cX1_straysWith 31 = .ok (.iconst 0, 1) := by decide +kernel
theorem dX1_straysWith_32 : decode cX1_straysWith 32 = .ok (.istore 7, 2) := by decide +kernel
theorem dX1_straysWith_34 : decode cX1_straysWith 34 = .ok (.iload 7, 2) := by decide +kernel
theorem dX1_straysWith_36 : decode cX1_straysWith 36 = .ok (.aload_n 0, 1) := by decide +kernel
theorem dX1_straysWith_37 : decode cX1_straysWith 37 = .ok (.getfield 27, 3) := by decide +kernel
theorem dX1_straysWith_40 : decode cX1_straysWith 40 = .ok (.if_icmp .ge 65, 3) := by decide +kernel
theorem dX1_straysWith_43 : decode cX1_straysWith 43 = .ok (.aload_n 0, 1) := by decide +kernel
theorem dX1_straysWith_44 : decode cX1_straysWith 44 = .ok (.getfield 18, 3) := by decide +kernel
theorem dX1_straysWith_47 : decode cX1_straysWith 47 = .ok (.iload 5, 2) := by decide +kernel
theorem dX1_straysWith_49 : decode cX1_straysWith 49 = .ok (.iaload, 1) := by decide +kernel
theorem dX1_straysWith_50 : decode cX1_straysWith 50 = .ok (.iload 7, 2) := by decide +kernel
theorem dX1_straysWith_52 : decode cX1_straysWith 52 = .ok (.ishr, 1) := by decide +kernel
theorem dX1_straysWith_53 : decode cX1_straysWith 53 = .ok (.iconst 1, 1) := by decide +kernel
theorem dX1_straysWith_54 : decode cX1_straysWith 54 = .ok (.iand, 1) := by decide +kernel
theorem dX1_straysWith_55 : decode cX1_straysWith 55 = .ok (.iconst 1, 1) := by decide +kernel
theorem dX1_straysWith_56 : decode cX1_straysWith 56 = .ok (.if_icmp .ne 7, 3) := by decide +kernel
theorem dX1_straysWith_59 : decode cX1_straysWith 59 = .ok (.iconst 1, 1) := by decide +kernel
theorem dX1_straysWith_60 : decode cX1_straysWith 60 = .ok (.goto 4, 3) := by decide +kernel
theorem dX1_straysWith_63 : decode cX1_straysWith 63 = .ok (.iconst 0, 1) := by decide +kernel
theorem dX1_straysWith_64 : decode cX1_straysWith 64 = .ok (.istore 8, 2) := by decide +kernel
theorem dX1_straysWith_66 : decode cX1_straysWith 66 = .ok (.iload 8, 2) := by decide +kernel
theorem dX1_straysWith_68 : decode cX1_straysWith 68 = .ok (.ifCond .ne 31, 3) := by decide +kernel
theorem dX1_straysWith_71 : decode cX1_straysWith 71 = .ok (.iload 6, 2) := by decide +kernel
theorem dX1_straysWith_73 : decode cX1_straysWith 73 = .ok (.iload 7, 2) := by decide +kernel
theorem dX1_straysWith_75 : decode cX1_straysWith 75 = .ok (.iload_n 1, 1) := by decide +kernel
theorem dX1_straysWith_76 : decode cX1_straysWith 76 = .ok (.if_icmp .ne 7, 3) := by decide +kernel
theorem dX1_straysWith_79 : decode cX1_straysWith 79 = .ok (.iload_n 2, 1) := by decide +kernel
theorem dX1_straysWith_80 : decode cX1_straysWith 80 = .ok (.goto 10, 3) := by decide +kernel
theorem dX1_straysWith_83 : decode cX1_straysWith 83 = .ok (.aload_n 0, 1) := by decide +kernel
theorem dX1_straysWith_84 : decode cX1_straysWith 84 = .ok (.getfield 15, 3) := by decide +kernel
theorem dX1_straysWith_87 : decode cX1_straysWith 87 = .ok (.iload 7, 2) := by decide +kernel
theorem dX1_straysWith_89 : decode cX1_straysWith 89 = .ok (.iaload, 1) := by decide +kernel
theorem dX1_straysWith_90 : decode cX1_straysWith 90 = .ok (.invokestatic 57, 3) := by decide +kernel
theorem dX1_straysWith_93 : decode cX1_straysWith 93 = .ok (.ifCond .eq 6, 3) := by decide +kernel
theorem dX1_straysWith_96 : decode cX1_straysWith 96 = .ok (.iinc 4 1, 3) := by decide +kernel
theorem dX1_straysWith_99 : decode cX1_straysWith 99 = .ok (.iinc 7 1, 3) := by decide +kernel
theorem dX1_straysWith_102 : decode cX1_straysWith 102 = .ok (.goto (-68), 3) := by decide +kernel
theorem dX1_straysWith_105 : decode cX1_straysWith 105 = .ok (.iinc 5 1, 3) := by decide +kernel
theorem dX1_straysWith_108 : decode cX1_straysWith 108 = .ok (.goto (-102), 3) := by decide +kernel
theorem dX1_straysWith_111 : decode cX1_straysWith 111 = .ok (.iload 4, 2) := by decide +kernel
theorem dX1_straysWith_113 : decode cX1_straysWith 113 = .ok (.ireturn, 1) := by decide +kernel
set_option maxRecDepth 20000 in
theorem ggX1_workWith_X1_pinsWith : GoodIn wsX1_workWith wsX1_pinsWith := goodIn_r _ [7, 8, 9, 17, 18, 19, 20, 21, 22, 23, 24] (by decide +kernel) (by decide +kernel)
set_option maxRecDepth 20000 in
theorem gX1_workWith_X1_pinsWith : GoodIn wsX1_workWith (wsV RX1 88 RX1 yX1_pinsWith wsX1_pinsWith) := goodIn_app (goodIn_of _ (by decide +kernel)) ggX1_workWith_X1_pinsWith
set_option maxRecDepth 20000 in
theorem ggX1_workWith_J6_bitCount_0f7a4 : GoodIn wsX1_workWith wsJ6_bitCount_0f7a4 := goodIn_r _ [13, 14, 15, 16] (by decide +kernel) (by decide +kernel)
set_option maxRecDepth 20000 in
theorem gX1_workWith_J6_bitCount_0f7a4 : GoodIn wsX1_workWith (va_wsS RX1 52 yJ6_bitCount_0f7a4 wsJ6_bitCount_0f7a4) := goodIn_app (goodIn_of _ (by decide +kernel)) ggX1_workWith_J6_bitCount_0f7a4
theorem dX1_workWith_0 : decode cX1_workWith 0 = .ok (.iconst 0, 1) := by decide +kernel
theorem dX1_workWith_1 : decode cX1_workWith 1 = .ok (.istore_n 3, 1) := by decide +kernel
theorem dX1_workWith_2 : decode cX1_workWith 2 = .ok (.iconst 0, 1) := by decide +kernel
theorem dX1_workWith_3 : decode cX1_workWith 3 = .ok (.istore 4, 2) := by decide +kernel
theorem dX1_workWith_5 : decode cX1_workWith 5 = .ok (.iload 4, 2) := by decide +kernel
theorem dX1_workWith_7 : decode cX1_workWith 7 = .ok (.aload_n 0, 1) := by decide +kernel
theorem dX1_workWith_8 : decode cX1_workWith 8 = .ok (.getfield 31, 3) := by decide +kernel
theorem dX1_workWith_11 : decode cX1_workWith 11 = .ok (.if_icmp .ge 31, 3) := by decide +kernel
theorem dX1_workWith_14 : decode cX1_workWith 14 = .ok (.iload_n 3, 1) := by decide +kernel
theorem dX1_workWith_15 : decode cX1_workWith 15 = .ok (.aload_n 0, 1) := by decide +kernel
theorem dX1_workWith_16 : decode cX1_workWith 16 = .ok (.getfield 21, 3) := by decide +kernel
theorem dX1_workWith_19 : decode cX1_workWith 19 = .ok (.iload 4, 2) := by decide +kernel
theorem dX1_workWith_21 : decode cX1_workWith 21 = .ok (.iaload, 1) := by decide +kernel
theorem dX1_workWith_22 : decode cX1_workWith 22 = .ok (.aload_n 0, 1) := by decide +kernel
theorem dX1_workWith_23 : decode cX1_workWith 23 = .ok (.iload_n 1, 1) := by decide +kernel
theorem dX1_workWith_24 : decode cX1_workWith 24 = .ok (.iload_n 2, 1) := by decide +kernel
theorem dX1_workWith_25 : decode cX1_workWith 25 = .ok (.iload 4, 2) := by decide +kernel
theorem dX1_workWith_27 : decode cX1_workWith 27 = .ok (.invokevirtual 88, 3) := by decide +kernel
theorem dX1_workWith_30 : decode cX1_workWith 30 = .ok (.ixor, 1) := by decide +kernel
theorem dX1_workWith_31 : decode cX1_workWith 31 = .ok (.invokestatic 52, 3) := by decide +kernel
theorem dX1_workWith_34 : decode cX1_workWith 34 = .ok (.iadd, 1) := by decide +kernel
theorem dX1_workWith_35 : decode cX1_workWith 35 = .ok (.istore_n 3, 1) := by decide +kernel
theorem dX1_workWith_36 : decode cX1_workWith 36 = .ok (.iinc 4 1, 3) := by decide +kernel
theorem dX1_workWith_39 : decode cX1_workWith 39 = .ok (.goto (-34), 3) := by decide +kernel
theorem dX1_workWith_42 : decode cX1_workWith 42 = .ok (.iload_n 3, 1) := by decide +kernel
theorem dX1_workWith_43 : decode cX1_workWith 43 = .ok (.ireturn, 1) := by decide +kernel
