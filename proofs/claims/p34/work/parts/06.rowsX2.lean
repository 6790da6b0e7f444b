set_option maxRecDepth 20000 in
theorem ggX2_init_X1_init : GoodIn wsX2_init wsX1_init := goodIn_r _ [17, 18, 2, 3, 13, 19, 20, 21, 22, 23, 24, 25, 26, 43, 44, 45, 46, 47, 48, 49, 50] (by decide +kernel) (by decide +kernel)
set_option maxRecDepth 20000 in
theorem gX2_init_X1_init_n15 : GoodIn wsX2_init (wsX1_init) := ggX2_init_X1_init
set_option maxRecDepth 20000 in
theorem ggX2_init_X0_init : GoodIn wsX2_init wsX0_init := goodIn_r _ [28, 29, 2, 3, 13, 30, 31, 32, 33, 34, 35, 36, 37, 51, 52, 53, 54, 55, 56, 57, 58] (by decide +kernel) (by decide +kernel)
set_option maxRecDepth 20000 in
theorem gX2_init_X0_init_n22 : GoodIn wsX2_init (wsX0_init) := ggX2_init_X0_init
theorem dX2_init_0 : decode cX2_init 0 = .ok (.aload_n 0, 1) := by decide +kernel
theorem dX2_init_1 : decode cX2_init 1 = .ok (.invokespecial 1, 3) := by decide +kernel
theorem dX2_init_4 : decode cX2_init 4 = .ok (.aload_n 0, 1) := by decide +kernel
theorem dX2_init_5 : decode cX2_init 5 = .ok (.iconst 0, 1) := by decide +kernel
theorem dX2_init_6 : decode cX2_init 6 = .ok (.putfield 7, 3) := by decide +kernel
theorem dX2_init_9 : decode cX2_init 9 = .ok (.aload_n 0, 1) := by decide +kernel
theorem dX2_init_10 : decode cX2_init 10 = .ok (.new 13, 3) := by decide +kernel
theorem dX2_init_13 : decode cX2_init 13 = .ok (.dup, 1) := by decide +kernel
theorem dX2_init_14 : decode cX2_init 14 = .ok (.invokespecial 15, 3) := by decide +kernel
theorem dX2_init_17 : decode cX2_init 17 = .ok (.putfield 16, 3) := by decide +kernel
theorem dX2_init_20 : decode cX2_init 20 = .ok (.aload_n 0, 1) := by decide +kernel
theorem dX2_init_21 : decode cX2_init 21 = .ok (.new 20, 3) := by decide +kernel
theorem dX2_init_24 : decode cX2_init 24 = .ok (.dup, 1) := by decide +kernel
theorem dX2_init_25 : decode cX2_init 25 = .ok (.invokespecial 22, 3) := by decide +kernel
theorem dX2_init_28 : decode cX2_init 28 = .ok (.putfield 23, 3) := by decide +kernel
theorem dX2_init_31 : decode cX2_init 31 = .ok (.aload_n 0, 1) := by decide +kernel
theorem dX2_init_32 : decode cX2_init 32 = .ok (.bipush 8, 2) := by decide +kernel
theorem dX2_init_34 : decode cX2_init 34 = .ok (.newarray .int, 2) := by decide +kernel
theorem dX2_init_36 : decode cX2_init 36 = .ok (.putfield 27, 3) := by decide +kernel
theorem dX2_init_39 : decode cX2_init 39 = .ok (.aload_n 0, 1) := by decide +kernel
theorem dX2_init_40 : decode cX2_init 40 = .ok (.bipush 8, 2) := by decide +kernel
theorem dX2_init_42 : decode cX2_init 42 = .ok (.newarray .int, 2) := by decide +kernel
theorem dX2_init_44 : decode cX2_init 44 = .ok (.putfield 31, 3) := by decide +kernel
theorem dX2_init_47 : decode cX2_init 47 = .ok (.return_, 1) := by decide +kernel
set_option maxRecDepth 20000 in
theorem ggX2_addKey_X1_isTaken : GoodIn wsX2_addKey wsX1_isTaken := goodIn_r _ [11, 12, 13, 27, 28, 29, 30, 31, 32, 33, 34] (by decide +kernel) (by decide +kernel)
set_option maxRecDepth 20000 in
theorem gX2_addKey_X1_isTaken : GoodIn wsX2_addKey (wsV RX2 49 RX1 yX1_isTaken wsX1_isTaken) := goodIn_app (goodIn_of _ (by decide +kernel)) ggX2_addKey_X1_isTaken
set_option maxRecDepth 20000 in
theorem ggX2_addKey_X1_takeKey : GoodIn wsX2_addKey wsX1_takeKey := goodIn_r _ [17, 12, 13, 18, 19, 20, 10, 21, 27, 28, 29, 30, 31, 32, 33, 34] (by decide +kernel) (by decide +kernel)
set_option maxRecDepth 20000 in
theorem gX2_addKey_X1_takeKey : GoodIn wsX2_addKey (wsV RX2 55 RX1 yX1_takeKey wsX1_takeKey) := goodIn_app (goodIn_of _ (by decide +kernel)) ggX2_addKey_X1_takeKey
theorem dX2_addKey_0 : decode cX2_addKey 0 = .ok (.iload_n 1, 1) := by decide +kernel
theorem dX2_addKey_1 : decode cX2_addKey 1 = .ok (.ifCond .lt 10, 3) := by decide +kernel
theorem dX2_addKey_4 : decode cX2_addKey 4 = .ok (.iload_n 1, 1) := by decide +kernel
theorem dX2_addKey_5 : decode cX2_addKey 5 = .ok (.sipush 1024, 3) := by decide +kernel
theorem dX2_addKey_8 : decode cX2_addKey 8 = .ok (.if_icmp .lt 13, 3) := by decide +kernel
theorem dX2_addKey_11 : decode cX2_addKey 11 = .ok (.new 34, 3) := by decide +kernel
theorem dX2_addKey_14 : decode cX2_addKey 14 = .ok (.dup, 1) := by decide +kernel
theorem dX2_addKey_15 : decode cX2_addKey 15 = .ok (.ldc 36, 2) := by decide +kernel
theorem dX2_addKey_17 : decode cX2_addKey 17 = .ok (.invokespecial 38, 3) := by decide +kernel
theorem dX2_addKey_20 : decode cX2_addKey 20 = .ok (.athrow, 1) := by decide +kernel
theorem dX2_addKey_21 : decode cX2_addKey 21 = .ok (.aload_n 0, 1) := by decide +kernel
theorem dX2_addKey_22 : decode cX2_addKey 22 = .ok (.getfield 16, 3) := by decide +kernel
theorem dX2_addKey_25 : decode cX2_addKey 25 = .ok (.getfield 41, 3) := by decide +kernel
theorem dX2_addKey_28 : decode cX2_addKey 28 = .ok (.bipush 8, 2) := by decide +kernel
theorem dX2_addKey_30 : decode cX2_addKey 30 = .ok (.if_icmp .lt 13, 3) := by decide +kernel
theorem dX2_addKey_33 : decode cX2_addKey 33 = .ok (.new 44, 3) := by decide +kernel
theorem dX2_addKey_36 : decode cX2_addKey 36 = .ok (.dup, 1) := by decide +kernel
theorem dX2_addKey_37 : decode cX2_addKey 37 = .ok (.ldc 46, 2) := by decide +kernel
theorem dX2_addKey_39 : decode cX2_addKey 39 = .ok (.invokespecial 48, 3) := by decide +kernel
theorem dX2_addKey_42 : decode cX2_addKey 42 = .ok (.athrow, 1) := by decide +kernel
theorem dX2_addKey_43 : decode cX2_addKey 43 = .ok (.aload_n 0, 1) := by decide +kernel
theorem dX2_addKey_44 : decode cX2_addKey 44 = .ok (.getfield 16, 3) := by decide +kernel
theorem dX2_addKey_47 : decode cX2_addKey 47 = .ok (.iload_n 1, 1) := by decide +kernel
theorem dX2_addKey_48 : decode cX2_addKey 48 = .ok (.invokevirtual 49, 3) := by decide +kernel
theorem dX2_addKey_51 : decode cX2_addKey 51 = .ok (.ifCond .eq 13, 3) := by decide +kernel
theorem dX2_addKey_54 : decode cX2_addKey 54 = .ok (.new 44, 3) := by decide +kernel
theorem dX2_addKey_57 : decode cX2_addKey 57 = .ok (.dup, 1) := by decide +kernel
theorem dX2_addKey_58 : decode cX2_addKey 58 = .ok (.ldc 53, 2) := by decide +kernel
theorem dX2_addKey_60 : decode cX2_addKey 60 = .ok (.invokespecial 48, 3) := by decide +kernel
theorem dX2_addKey_63 : decode cX2_addKey 63 = .ok (.athrow, 1) := by decide +kernel
theorem dX2_addKey_64 : decode cX2_addKey 64 = .ok (.aload_n 0, 1) := by decide +kernel
theorem dX2_addKey_65 : decode cX2_addKey 65 = .ok (.getfield 16, 3) := by decide +kernel
theorem dX2_addKey_68 : decode cX2_addKey 68 = .ok (.iload_n 1, 1) := by decide +kernel
theorem dX2_addKey_69 : decode cX2_addKey 69 = .ok (.invokevirtual 55, 3) := by decide +kernel
theorem dX2_addKey_72 : decode cX2_addKey 72 = .ok (.ireturn, 1) := by decide +kernel
set_option maxRecDepth 20000 in
theorem ggX2_addDoor_X2_needRights : GoodIn wsX2_addDoor wsX2_needRights := goodIn_ca (goodIn_r _ [9, 10, 11, 3, 12, 13, 14, 8, 15, 46, 47, 48, 49, 50, 51, 52, 53, 54, 55, 56, 57, 58] (by decide +kernel) (by decide +kernel)) (goodIn_sub (fun _ h => List.mem_cons_of_mem _ (List.mem_append_right _ h)) (by decide +kernel))
set_option maxRecDepth 20000 in
theorem gX2_addDoor_X2_needRights : GoodIn wsX2_addDoor (wsV RX2 59 RX2 yX2_needRights wsX2_needRights) := goodIn_app (goodIn_of _ (by decide +kernel)) ggX2_addDoor_X2_needRights
set_option maxRecDepth 20000 in
theorem ggX2_addDoor_X1_takeDoor : GoodIn wsX2_addDoor wsX1_takeDoor := goodIn_r _ [20, 21, 22, 23, 24, 19, 25, 26, 27, 28, 29, 30, 31, 32, 33, 34, 35, 36, 37, 38, 39, 40, 41, 42, 43, 44, 45, 51, 52, 53, 54, 55, 56, 57, 58] (by decide +kernel) (by decide +kernel)
set_option maxRecDepth 20000 in
theorem gX2_addDoor_X1_takeDoor : GoodIn wsX2_addDoor (wsV RX2 68 RX1 yX1_takeDoor wsX1_takeDoor) := goodIn_app (goodIn_of _ (by decide +kernel)) ggX2_addDoor_X1_takeDoor
theorem dX2_addDoor_0 : decode cX2_addDoor 0 = .ok (.aload_n 0, 1) := by decide +kernel
theorem dX2_addDoor_1 : decode cX2_addDoor 1 = .ok (.iload_n 1, 1) := by decide +kernel
theorem dX2_addDoor_2 : decode cX2_addDoor 2 = .ok (.invokevirtual 59, 3) := by decide +kernel
theorem dX2_addDoor_5 : decode cX2_addDoor 5 = .ok (.aload_n 0, 1) := by decide +kernel
theorem dX2_addDoor_6 : decode cX2_addDoor 6 = .ok (.getfield 16, 3) := by decide +kernel
theorem dX2_addDoor_9 : decode cX2_addDoor 9 = .ok (.getfield 63, 3) := by decide +kernel
theorem dX2_addDoor_12 : decode cX2_addDoor 12 = .ok (.bipush 8, 2) := by decide +kernel
theorem dX2_addDoor_14 : decode cX2_addDoor 14 = .ok (.if_icmp .lt 13, 3) := by decide +kernel
theorem dX2_addDoor_17 : decode cX2_addDoor 17 = .ok (.new 44, 3) := by decide +kernel
theorem dX2_addDoor_20 : decode cX2_addDoor 20 = .ok (.dup, 1) := by decide +kernel
theorem dX2_addDoor_21 : decode cX2_addDoor 21 = .ok (.ldc 66, 2) := by decide +kernel
theorem dX2_addDoor_23 : decode cX2_addDoor 23 = .ok (.invokespecial 48, 3) := by decide +kernel
theorem dX2_addDoor_26 : decode cX2_addDoor 26 = .ok (.athrow, 1) := by decide +kernel
theorem dX2_addDoor_27 : decode cX2_addDoor 27 = .ok (.aload_n 0, 1) := by decide +kernel
theorem dX2_addDoor_28 : decode cX2_addDoor 28 = .ok (.getfield 16, 3) := by decide +kernel
theorem dX2_addDoor_31 : decode cX2_addDoor 31 = .ok (.iload_n 1, 1) := by decide +kernel
theorem dX2_addDoor_32 : decode cX2_addDoor 32 = .ok (.invokevirtual 68, 3) := by decide +kernel
theorem dX2_addDoor_35 : decode cX2_addDoor 35 = .ok (.ireturn, 1) := by decide +kernel
set_option maxRecDepth 20000 in
theorem ggX2_setRights_X2_needDoor : GoodIn wsX2_setRights wsX2_needDoor := goodIn_ca (goodIn_r _ [7, 8, 9, 1, 10, 46, 47, 48, 49, 50, 51, 52, 53, 54, 55, 56, 57, 58] (by decide +kernel) (by decide +kernel)) (goodIn_sub (fun _ h => List.mem_cons_of_mem _ (List.mem_append_left _ (List.mem_append_right _ h))) (by decide +kernel))
set_option maxRecDepth 20000 in
theorem gX2_setRights_X2_needDoor : GoodIn wsX2_setRights (wsV RX2 71 RX2 yX2_needDoor wsX2_needDoor) := goodIn_app (goodIn_of _ (by decide +kernel)) ggX2_setRights_X2_needDoor
set_option maxRecDepth 20000 in
theorem ggX2_setRights_X2_needRights : GoodIn wsX2_setRights wsX2_needRights := goodIn_ca (goodIn_r _ [14, 15, 16, 1, 17, 18, 19, 6, 20, 46, 47, 48, 49, 50, 51, 52, 53, 54, 55, 56, 57, 58] (by decide +kernel) (by decide +kernel)) (goodIn_sub (fun _ h => List.mem_cons_of_mem _ (List.mem_append_right _ h)) (by decide +kernel))
set_option maxRecDepth 20000 in
theorem gX2_setRights_X2_needRights : GoodIn wsX2_setRights (wsV RX2 59 RX2 yX2_needRights wsX2_needRights) := goodIn_app (goodIn_of _ (by decide +kernel)) ggX2_setRights_X2_needRights
set_option maxRecDepth 20000 in
theorem ggX2_setRights_X1_giveRights : GoodIn wsX2_setRights wsX1_giveRights := goodIn_r _ [25, 26, 27, 28, 29, 24, 30, 31, 32, 33, 34, 35, 36, 37, 38, 39, 40, 41, 42, 43, 44, 45, 51, 52, 53, 54, 55, 56, 57, 58] (by decide +kernel) (by decide +kernel)
set_option maxRecDepth 20000 in
theorem gX2_setRights_X1_giveRights : GoodIn wsX2_setRights (wsV RX2 77 RX1 yX1_giveRights wsX1_giveRights) := goodIn_app (goodIn_of _ (by decide +kernel)) ggX2_setRights_X1_giveRights
theorem dX2_setRights_0 : decode cX2_setRights 0 = .ok (.aload_n 0, 1) := by decide +kernel
theorem dX2_setRights_1 : decode cX2_setRights 1 = .ok (.iload_n 1, 1) := by decide +kernel
theorem dX2_setRights_2 : decode cX2_setRights 2 = .ok (.invokevirtual 71, 3) := by decide +kernel
theorem dX2_setRights_5 : decode cX2_setRights 5 = .ok (.aload_n 0, 1) := by decide +kernel
theorem dX2_setRights_6 : decode cX2_setRights 6 = .ok (.iload_n 2, 1) := by decide +kernel
theorem dX2_setRights_7 : decode cX2_setRights 7 = .ok (.invokevirtual 59, 3) := by decide +kernel
theorem dX2_setRights_10 : decode cX2_setRights 10 = .ok (.aload_n 0, 1) := by decide +kernel
theorem dX2_setRights_11 : decode cX2_setRights 11 = .ok (.getfield 16, 3) := by decide +kernel
theorem dX2_setRights_14 : decode cX2_setRights 14 = .ok (.getfield 74, 3) := by decide +kernel
theorem dX2_setRights_17 : decode cX2_setRights 17 = .ok (.iload_n 1, 1) := by decide +kernel
theorem dX2_setRights_18 : decode cX2_setRights 18 = .ok (.iaload, 1) := by decide +kernel
theorem dX2_setRights_19 : decode cX2_setRights 19 = .ok (.istore_n 3, 1) := by decide +kernel
theorem dX2_setRights_20 : decode cX2_setRights 20 = .ok (.aload_n 0, 1) := by decide +kernel
theorem dX2_setRights_21 : decode cX2_setRights 21 = .ok (.getfield 16, 3) := by decide +kernel
theorem dX2_setRights_24 : decode cX2_setRights 24 = .ok (.iload_n 1, 1) := by decide +kernel
theorem dX2_setRights_25 : decode cX2_setRights 25 = .ok (.iload_n 2, 1) := by decide +kernel
theorem dX2_setRights_26 : decode cX2_setRights 26 = .ok (.invokevirtual 77, 3) := by decide +kernel
theorem dX2_setRights_29 : decode cX2_setRights 29 = .ok (.iload_n 3, 1) := by decide +kernel
theorem dX2_setRights_30 : decode cX2_setRights 30 = .ok (.ireturn, 1) := by decide +kernel
theorem dX2_keyCount_0 : decode cX2_keyCount 0 = .ok (.aload_n 0, 1) := by decide +kernel
theorem dX2_keyCount_1 : decode cX2_keyCount 1 = .ok (.getfield 16, 3) := by decide +kernel
theorem dX2_keyCount_4 : decode cX2_keyCount 4 = .ok (.getfield 41, 3) := by decide +kernel
theorem dX2_keyCount_7 : decode cX2_keyCount 7 = .ok (.ireturn, 1) := by decide +kernel
theorem dX2_doorCount_0 : decode cX2_doorCount 0 = .ok (.aload_n 0, 1) := by decide +kernel
theorem dX2_doorCount_1 : decode cX2_doorCount 1 = .ok (.getfield 16, 3) := by decide +kernel
theorem dX2_doorCount_4 : decode cX2_doorCount 4 = .ok (.getfield 63, 3) := by decide +kernel
theorem dX2_doorCount_7 : decode cX2_doorCount 7 = .ok (.ireturn, 1) := by decide +kernel
set_option maxRecDepth 20000 in
theorem ggX2_code_X2_needKey : GoodIn wsX2_code wsX2_needKey := goodIn_ca (goodIn_r _ [7, 8, 9, 1, 10, 11, 12, 13, 14, 15, 16, 17, 18, 19, 20, 21, 22, 23] (by decide +kernel) (by decide +kernel)) (goodIn_sub (fun _ h => List.mem_cons_of_mem _ (List.mem_append_right _ h)) (by decide +kernel))
set_option maxRecDepth 20000 in
theorem gX2_code_X2_needKey : GoodIn wsX2_code (wsV RX2 81 RX2 yX2_needKey wsX2_needKey) := goodIn_app (goodIn_of _ (by decide +kernel)) ggX2_code_X2_needKey
theorem dX2_code_0 : decode cX2_code 0 = .ok (.aload_n 0, 1) := by decide +kernel
theorem dX2_code_1 : decode cX2_code 1 = .ok (.iload_n 1, 1) := by decide +kernel
theorem dX2_code_2 : decode cX2_code 2 = .ok (.invokevirtual 81, 3) := by decide +kernel
theorem dX2_code_5 : decode cX2_code 5 = .ok (.aload_n 0, 1) := by decide +kernel
theorem dX2_code_6 : decode cX2_code 6 = .ok (.getfield 16, 3) := by decide +kernel
theorem dX2_code_9 : decode cX2_code 9 = .ok (.getfield 84, 3) := by decide +kernel
theorem dX2_code_12 : decode cX2_code 12 = .ok (.iload_n 1, 1) := by decide +kernel
theorem dX2_code_13 : decode cX2_code 13 = .ok (.iaload, 1) := by decide +kernel
theorem dX2_code_14 : decode cX2_code 14 = .ok (.ireturn, 1) := by decide +kernel
set_option maxRecDepth 20000 in
theorem ggX2_pins_X2_needDoor : GoodIn wsX2_pins wsX2_needDoor := goodIn_ca (goodIn_r _ [8, 1, 2, 3, 9, 16, 17, 18, 19, 20, 21, 22, 23, 24, 25, 26, 27, 28] (by decide +kernel) (by decide +kernel)) (goodIn_sub (fun _ h => List.mem_cons_of_mem _ (List.mem_append_right _ h)) (by decide +kernel))
set_option maxRecDepth 20000 in
theorem gX2_pins_X2_needDoor : GoodIn wsX2_pins (wsV RX2 71 RX2 yX2_needDoor wsX2_needDoor) := goodIn_app (goodIn_of _ (by decide +kernel)) ggX2_pins_X2_needDoor
set_option maxRecDepth 20000 in
theorem ggX2_pins_X1_pinsAt : GoodIn wsX2_pins wsX1_pinsAt := goodIn_r _ [14, 15, 21, 22, 23, 24, 25, 26, 27, 28] (by decide +kernel) (by decide +kernel)
set_option maxRecDepth 20000 in
theorem gX2_pins_X1_pinsAt : GoodIn wsX2_pins (wsV RX2 92 RX1 yX1_pinsAt wsX1_pinsAt) := goodIn_app (goodIn_of _ (by decide +kernel)) ggX2_pins_X1_pinsAt
theorem dX2_pins_0 : decode cX2_pins 0 = .ok (.aload_n 0, 1) := by decide +kernel
theorem dX2_pins_1 : decode cX2_pins 1 = .ok (.iload_n 1, 1) := by decide +kernel
theorem dX2_pins_2 : decode cX2_pins 2 = .ok (.invokevirtual 71, 3) := by decide +kernel
theorem dX2_pins_5 : decode cX2_pins 5 = .ok (.iload_n 2, 1) := by decide +kernel
theorem dX2_pins_6 : decode cX2_pins 6 = .ok (.ifCond .lt 8, 3) := by decide +kernel
theorem dX2_pins_9 : decode cX2_pins 9 = .ok (.iload_n 2, 1) := by decide +kernel
theorem dX2_pins_10 : decode cX2_pins 10 = .ok (.iconst 5, 1) := by decide +kernel
theorem dX2_pins_11 : decode cX2_pins 11 = .ok (.if_icmp .lt 13, 3) := by decide +kernel
theorem dX2_pins_14 : decode cX2_pins 14 = .ok (.new 87, 3) := by decide +kernel
theorem dX2_pins_17 : decode cX2_pins 17 = .ok (.dup, 1) := by decide +kernel
theorem dX2_pins_18 : decode cX2_pins 18 = .ok (.ldc 89, 2) := by decide +kernel
theorem dX2_pins_20 : decode cX2_pins 20 = .ok (.invokespecial 91, 3) := by decide +kernel
theorem dX2_pins_23 : decode cX2_pins 23 = .ok (.athrow, 1) := by decide +kernel
theorem dX2_pins_24 : decode cX2_pins 24 = .ok (.aload_n 0, 1) := by decide +kernel
theorem dX2_pins_25 : decode cX2_pins 25 = .ok (.getfield 16, 3) := by decide +kernel
theorem dX2_pins_28 : decode cX2_pins 28 = .ok (.iload_n 1, 1) := by decide +kernel
theorem dX2_pins_29 : decode cX2_pins 29 = .ok (.iload_n 2, 1) := by decide +kernel
theorem dX2_pins_30 : decode cX2_pins 30 = .ok (.invokevirtual 92, 3) := by decide +kernel
theorem dX2_pins_33 : decode cX2_pins 33 = .ok (.ireturn, 1) := by decide +kernel
set_option maxRecDepth 20000 in
theorem ggX2_opens_X2_needKey : GoodIn wsX2_opens wsX2_needKey := goodIn_ca (goodIn_r _ [6, 7, 8, 1, 9, 24, 25, 26, 27, 28, 29, 30, 31, 32, 33, 34, 35, 36] (by decide +kernel) (by decide +kernel)) (goodIn_sub (fun _ h => List.mem_cons_of_mem _ (List.mem_append_right _ h)) (by decide +kernel))
set_option maxRecDepth 20000 in
theorem gX2_opens_X2_needKey : GoodIn wsX2_opens (wsV RX2 81 RX2 yX2_needKey wsX2_needKey) := goodIn_app (goodIn_of _ (by decide +kernel)) ggX2_opens_X2_needKey
set_option maxRecDepth 20000 in
theorem ggX2_opens_X2_needDoor : GoodIn wsX2_opens wsX2_needDoor := goodIn_ca (goodIn_r _ [13, 7, 8, 1, 14, 24, 25, 26, 27, 28, 29, 30, 31, 32, 33, 34, 35, 36] (by decide +kernel) (by decide +kernel)) (goodIn_sub (fun _ h => List.mem_cons_of_mem _ (List.mem_append_right _ h)) (by decide +kernel))
set_option maxRecDepth 20000 in
theorem gX2_opens_X2_needDoor : GoodIn wsX2_opens (wsV RX2 71 RX2 yX2_needDoor wsX2_needDoor) := goodIn_app (goodIn_of _ (by decide +kernel)) ggX2_opens_X2_needDoor
set_option maxRecDepth 20000 in
theorem ggX2_opens_X1_keyOpens : GoodIn wsX2_opens wsX1_keyOpens := goodIn_r _ [19, 20, 21, 22, 5, 23, 29, 30, 31, 32, 33, 34, 35, 36] (by decide +kernel) (by decide +kernel)
set_option maxRecDepth 20000 in
theorem gX2_opens_X1_keyOpens : GoodIn wsX2_opens (wsV RX2 96 RX1 yX1_keyOpens wsX1_keyOpens) := goodIn_app (goodIn_of _ (by decide +kernel)) ggX2_opens_X1_keyOpens
theorem dX2_opens_0 : decode cX2_opens 0 = .ok (.aload_n 0, 1) := by decide +kernel
theorem dX2_opens_1 : decode cX2_opens 1 = .ok (.iload_n 1, 1) := by decide +kernel
theorem dX2_opens_2 : decode cX2_opens 2 = .ok (.invokevirtual 81, 3) := by decide +kernel
theorem dX2_opens_5 : decode cX2_opens 5 = .ok (.aload_n 0, 1) := by decide +kernel
theorem dX2_opens_6 : decode cX2_opens 6 = .ok (.iload_n 2, 1) := by decide +kernel
theorem dX2_opens_7 : decode cX2_opens 7 = .ok (.invokevirtual 71, 3) := by decide +kernel
theorem dX2_opens_10 : decode cX2_opens 10 = .ok (.aload_n 0, 1) := by decide +kernel
theorem dX2_opens_11 : decode cX2_opens 11 = .ok (.getfield 16, 3) := by decide +kernel
theorem dX2_opens_14 : decode cX2_opens 14 = .ok (.iload_n 1, 1) := by decide +kernel
theorem dX2_opens_15 : decode cX2_opens 15 = .ok (.iload_n 2, 1) := by decide +kernel
theorem dX2_opens_16 : decode cX2_opens 16 = .ok (.invokevirtual 96, 3) := by decide +kernel
theorem dX2_opens_19 : decode cX2_opens 19 = .ok (.ireturn, 1) := by decide +kernel
set_option maxRecDepth 20000 in
theorem ggX2_openers_X2_needDoor : GoodIn wsX2_openers wsX2_needDoor := goodIn_ca (goodIn_r _ [6, 7, 8, 1, 9, 24, 25, 26, 27, 28, 29, 30, 31, 32, 33, 34, 35, 36] (by decide +kernel) (by decide +kernel)) (goodIn_sub (fun _ h => List.mem_cons_of_mem _ (List.mem_append_right _ h)) (by decide +kernel))
set_option maxRecDepth 20000 in
theorem gX2_openers_X2_needDoor : GoodIn wsX2_openers (wsV RX2 71 RX2 yX2_needDoor wsX2_needDoor) := goodIn_app (goodIn_of _ (by decide +kernel)) ggX2_openers_X2_needDoor
set_option maxRecDepth 20000 in
theorem ggX2_openers_X1_openersOf : GoodIn wsX2_openers wsX1_openersOf := goodIn_r _ [14, 15, 16, 17, 18, 13, 19, 20, 21, 22, 5, 23, 29, 30, 31, 32, 33, 34, 35, 36] (by decide +kernel) (by decide +kernel)
set_option maxRecDepth 20000 in
theorem gX2_openers_X1_openersOf : GoodIn wsX2_openers (wsV RX2 100 RX1 yX1_openersOf wsX1_openersOf) := goodIn_app (goodIn_of _ (by decide +kernel)) ggX2_openers_X1_openersOf
theorem dX2_openers_0 : decode cX2_openers 0 = .ok (.aload_n 0, 1) := by decide +kernel
theorem dX2_openers_1 : decode cX2_openers 1 = .ok (.iload_n 1, 1) := by decide +kernel
theorem dX2_openers_2 : decode cX2_openers 2 = .ok (.invokevirtual 71, 3) := by decide +kernel
theorem dX2_openers_5 : decode cX2_openers 5 = .ok (.aload_n 0, 1) := by decide +kernel
theorem dX2_openers_6 : decode cX2_openers 6 = .ok (.getfield 16, 3) := by decide +kernel
theorem dX2_openers_9 : decode cX2_openers 9 = .ok (.iload_n 1, 1) := by decide +kernel
theorem dX2_openers_10 : decode cX2_openers 10 = .ok (.invokevirtual 100, 3) := by decide +kernel
theorem dX2_openers_13 : decode cX2_openers 13 = .ok (.ireturn, 1) := by decide +kernel
set_option maxRecDepth 20000 in
theorem ggX2_doors_X2_needKey : GoodIn wsX2_doors wsX2_needKey := goodIn_ca (goodIn_r _ [6, 7, 8, 1, 9, 24, 25, 26, 27, 28, 29, 30, 31, 32, 33, 34, 35, 36] (by decide +kernel) (by decide +kernel)) (goodIn_sub (fun _ h => List.mem_cons_of_mem _ (List.mem_append_right _ h)) (by decide +kernel))
set_option maxRecDepth 20000 in
theorem gX2_doors_X2_needKey : GoodIn wsX2_doors (wsV RX2 81 RX2 yX2_needKey wsX2_needKey) := goodIn_app (goodIn_of _ (by decide +kernel)) ggX2_doors_X2_needKey
set_option maxRecDepth 20000 in
theorem ggX2_doors_X1_doorsOf : GoodIn wsX2_doors wsX1_doorsOf := goodIn_r _ [14, 15, 16, 17, 18, 13, 19, 20, 21, 22, 5, 23, 29, 30, 31, 32, 33, 34, 35, 36] (by decide +kernel) (by decide +kernel)
set_option maxRecDepth 20000 in
theorem gX2_doors_X1_doorsOf : GoodIn wsX2_doors (wsV RX2 103 RX1 yX1_doorsOf wsX1_doorsOf) := goodIn_app (goodIn_of _ (by decide +kernel)) ggX2_doors_X1_doorsOf
theorem dX2_doors_0 : decode cX2_doors 0 = .ok (.aload_n 0, 1) := by decide +kernel
theorem dX2_doors_1 : decode cX2_doors 1 = .ok (.iload_n 1, 1) := by decide +kernel
theorem dX2_doors_2 : decode cX2_doors 2 = .ok (.invokevirtual 81, 3) := by decide +kernel
theorem dX2_doors_5 : decode cX2_doors 5 = .ok (.aload_n 0, 1) := by decide +kernel
theorem dX2_doors_6 : decode cX2_doors 6 = .ok (.getfield 16, 3) := by decide +kernel
theorem dX2_doors_9 : decode cX2_doors 9 = .ok (.iload_n 1, 1) := by decide +kernel
theorem dX2_doors_10 : decode cX2_doors 10 = .ok (.invokevirtual 103, 3) := by decide +kernel
theorem dX2_doors_13 : decode cX2_doors 13 = .ok (.ireturn, 1) := by decide +kernel
set_option maxRecDepth 20000 in
theorem ggX2_strays_X1_countStrays : GoodIn wsX2_strays wsX1_countStrays := goodIn_r _ [6, 7, 8, 9, 10, 11, 5, 12, 13, 14, 15, 16, 17, 18, 19, 20, 21, 22, 23, 24, 25, 26, 27, 28, 29, 35, 36, 37, 38, 39, 40, 41, 42] (by decide +kernel) (by decide +kernel)
set_option maxRecDepth 20000 in
theorem gX2_strays_X1_countStrays : GoodIn wsX2_strays (wsV RX2 106 RX1 yX1_countStrays wsX1_countStrays) := goodIn_app (goodIn_of _ (by decide +kernel)) ggX2_strays_X1_countStrays
theorem dX2_strays_0 : decode cX2_strays 0 = .ok (.aload_n 0, 1) := by decide +kernel
theorem dX2_strays_1 : decode cX2_strays 1 = .ok (.getfield 16, 3) := by decide +kernel
theorem dX2_strays_4 : decode cX2_strays 4 = .ok (.invokevirtual 106, 3) := by decide +kernel
theorem dX2_strays_7 : decode cX2_strays 7 = .ok (.ireturn, 1) := by decide +kernel
set_option maxRecDepth 20000 in
theorem ggX2_codes_X2_needDoor : GoodIn wsX2_codes wsX2_needDoor := goodIn_ca (goodIn_r _ [6, 7, 8, 1, 9, 27, 28, 29, 30, 31, 32, 33, 34, 35, 36, 37, 38, 39] (by decide +kernel) (by decide +kernel)) (goodIn_sub (fun _ h => List.mem_cons_of_mem _ (List.mem_append_right _ h)) (by decide +kernel))
set_option maxRecDepth 20000 in
theorem gX2_codes_X2_needDoor : GoodIn wsX2_codes (wsV RX2 71 RX2 yX2_needDoor wsX2_needDoor) := goodIn_app (goodIn_of _ (by decide +kernel)) ggX2_codes_X2_needDoor
set_option maxRecDepth 20000 in
theorem ggX2_codes_X1_countCodes : GoodIn wsX2_codes wsX1_countCodes := goodIn_r _ [14, 15, 16, 17, 13, 18, 19, 20, 21, 22, 23, 24, 25, 26, 32, 33, 34, 35, 36, 37, 38, 39] (by decide +kernel) (by decide +kernel)
set_option maxRecDepth 20000 in
theorem gX2_codes_X1_countCodes : GoodIn wsX2_codes (wsV RX2 110 RX1 yX1_countCodes wsX1_countCodes) := goodIn_app (goodIn_of _ (by decide +kernel)) ggX2_codes_X1_countCodes
theorem dX2_codes_0 : decode cX2_codes 0 = .ok (.aload_n 0, 1) := by decide +kernel
theorem dX2_codes_1 : decode cX2_codes 1 = .ok (.iload_n 1, 1) := by decide +kernel
theorem dX2_codes_2 : decode cX2_codes 2 = .ok (.invokevirtual 71, 3) := by decide +kernel
theorem dX2_codes_5 : decode cX2_codes 5 = .ok (.aload_n 0, 1) := by decide +kernel
theorem dX2_codes_6 : decode cX2_codes 6 = .ok (.getfield 16, 3) := by decide +kernel
theorem dX2_codes_9 : decode cX2_codes 9 = .ok (.iload_n 1, 1) := by decide +kernel
theorem dX2_codes_10 : decode cX2_codes 10 = .ok (.invokevirtual 110, 3) := by decide +kernel
theorem dX2_codes_13 : decode cX2_codes 13 = .ok (.ireturn, 1) := by decide +kernel
theorem dX2_work_0 : decode cX2_work 0 = .ok (.aload_n 0, 1) := by decide +kernel
theorem dX2_work_1 : decode cX2_work 1 = .ok (.getfield 16, 3) := by decide +kernel
theorem dX2_work_4 : decode cX2_work 4 = .ok (.getfield 116, 3) := by decide +kernel
theorem dX2_work_7 : decode cX2_work 7 = .ok (.ireturn, 1) := by decide +kernel
set_option maxRecDepth 20000 in
theorem ggX2_replace_X2_needKey : GoodIn wsX2_replace wsX2_needKey := goodIn_ca (goodIn_r _ [8, 9, 10, 1, 11, 87, 88, 89, 90, 91, 92, 93, 94, 95, 96, 97, 98, 99] (by decide +kernel) (by decide +kernel)) (goodIn_sub (fun _ h => List.mem_cons_of_mem _ (List.mem_append_right _ h)) (by decide +kernel))
set_option maxRecDepth 20000 in
theorem gX2_replace_X2_needKey : GoodIn wsX2_replace (wsV RX2 81 RX2 yX2_needKey wsX2_needKey) := goodIn_app (goodIn_of _ (by decide +kernel)) ggX2_replace_X2_needKey
set_option maxRecDepth 20000 in
theorem ggX2_replace_X1_bestCodeFor : GoodIn wsX2_replace wsX1_bestCodeFor := goodIn_r _ [16, 17, 18, 19, 20, 21, 22, 15, 23, 24, 25, 26, 27, 28, 29, 30, 31, 32, 33, 34, 35, 36, 37, 38, 39, 40, 41, 42, 7, 43, 44, 45, 46, 47, 48, 49, 50, 51, 52, 53, 54, 55, 56, 57, 58, 59, 92, 93, 94, 95, 96, 97, 98, 99] (by decide +kernel) (by decide +kernel)
set_option maxRecDepth 20000 in
theorem gX2_replace_X1_bestCodeFor : GoodIn wsX2_replace (wsV RX2 119 RX1 yX1_bestCodeFor wsX1_bestCodeFor) := goodIn_app (goodIn_of _ (by decide +kernel)) ggX2_replace_X1_bestCodeFor
set_option maxRecDepth 20000 in
theorem ggX2_replace_X1_giveCode : GoodIn wsX2_replace wsX1_giveCode := goodIn_r _ [63, 33, 25, 17, 26, 27, 15, 28, 64, 65, 66, 67, 52, 19, 68, 20, 21, 22, 23, 24, 53, 54, 55, 56, 57, 58, 59, 92, 93, 94, 95, 96, 97, 98, 99] (by decide +kernel) (by decide +kernel)
set_option maxRecDepth 20000 in
theorem gX2_replace_X1_giveCode : GoodIn wsX2_replace (wsV RX2 122 RX1 yX1_giveCode wsX1_giveCode) := goodIn_app (goodIn_of _ (by decide +kernel)) ggX2_replace_X1_giveCode
set_option maxRecDepth 20000 in
theorem ggX2_replace_X0_voidCopiesOf : GoodIn wsX2_replace wsX0_voidCopiesOf := goodIn_r _ [73, 74, 75, 76, 77, 78, 72, 79, 80, 81, 82, 83, 84, 85, 86, 100, 101, 102, 103, 104, 105, 106, 107] (by decide +kernel) (by decide +kernel)
set_option maxRecDepth 20000 in
theorem gX2_replace_X0_voidCopiesOf : GoodIn wsX2_replace (wsV RX2 125 RX0 yX0_voidCopiesOf wsX0_voidCopiesOf) := goodIn_app (goodIn_of _ (by decide +kernel)) ggX2_replace_X0_voidCopiesOf
theorem dX2_replace_0 : decode cX2_replace 0 = .ok (.aload_n 0, 1) := by decide +kernel
theorem dX2_replace_1 : decode cX2_replace 1 = .ok (.iload_n 1, 1) := by decide +kernel
theorem dX2_replace_2 : decode cX2_replace 2 = .ok (.invokevirtual 81, 3) := by decide +kernel
theorem dX2_replace_5 : decode cX2_replace 5 = .ok (.aload_n 0, 1) := by decide +kernel
theorem dX2_replace_6 : decode cX2_replace 6 = .ok (.getfield 16, 3) := by decide +kernel
theorem dX2_replace_9 : decode cX2_replace 9 = .ok (.iload_n 1, 1) := by decide +kernel
theorem dX2_replace_10 : decode cX2_replace 10 = .ok (.invokevirtual 119, 3) := by decide +kernel
theorem dX2_replace_13 : decode cX2_replace 13 = .ok (.istore_n 2, 1) := by decide +kernel
theorem dX2_replace_14 : decode cX2_replace 14 = .ok (.iload_n 2, 1) := by decide +kernel
theorem dX2_replace_15 : decode cX2_replace 15 = .ok (.iconst (-1), 1) := by decide +kernel
theorem dX2_replace_16 : decode cX2_replace 16 = .ok (.if_icmp .ne 5, 3) := by decide +kernel
theorem dX2_replace_19 : decode cX2_replace 19 = .ok (.iconst (-1), 1) := by decide +kernel
theorem dX2_replace_20 : decode cX2_replace 20 = .ok (.ireturn, 1) := by decide +kernel
theorem dX2_replace_21 : decode cX2_replace 21 = .ok (.aload_n 0, 1) := by decide +kernel
theorem dX2_replace_22 : decode cX2_replace 22 = .ok (.getfield 16, 3) := by decide +kernel
theorem dX2_replace_25 : decode cX2_replace 25 = .ok (.iload_n 1, 1) := by decide +kernel
theorem dX2_replace_26 : decode cX2_replace 26 = .ok (.iload_n 2, 1) := by decide +kernel
theorem dX2_replace_27 : decode cX2_replace 27 = .ok (.invokevirtual 122, 3) := by decide +kernel
theorem dX2_replace_30 : decode cX2_replace 30 = .ok (.aload_n 0, 1) := by decide +kernel
theorem dX2_replace_31 : decode cX2_replace 31 = .ok (.getfield 23, 3) := by decide +kernel
theorem dX2_replace_34 : decode cX2_replace 34 = .ok (.iload_n 1, 1) := by decide +kernel
theorem dX2_replace_35 : decode cX2_replace 35 = .ok (.aload_n 0, 1) := by decide +kernel
theorem dX2_replace_36 : decode cX2_replace 36 = .ok (.getfield 7, 3) := by decide +kernel
theorem dX2_replace_39 : decode cX2_replace 39 = .ok (.invokevirtual 125, 3) := by decide +kernel
theorem dX2_replace_42 : decode cX2_replace 42 = .ok (.iload_n 2, 1) := by decide +kernel
theorem dX2_replace_43 : decode cX2_replace 43 = .ok (.ireturn, 1) := by decide +kernel
theorem dX2_needKey_0 : decode cX2_needKey 0 = .ok (.iload_n 1, 1) := by decide +kernel
theorem dX2_needKey_1 : decode cX2_needKey 1 = .ok (.ifCond .lt 14, 3) := by decide +kernel
theorem dX2_needKey_4 : decode cX2_needKey 4 = .ok (.iload_n 1, 1) := by decide +kernel
theorem dX2_needKey_5 : decode cX2_needKey 5 = .ok (.aload_n 0, 1) := by decide +kernel
theorem dX2_needKey_6 : decode cX2_needKey 6 = .ok (.getfield 16, 3) := by decide +kernel
theorem dX2_needKey_9 : decode cX2_needKey 9 = .ok (.getfield 41, 3) := by decide +kernel
theorem dX2_needKey_12 : decode cX2_needKey 12 = .ok (.if_icmp .lt 13, 3) := by decide +kernel
theorem dX2_needKey_15 : decode cX2_needKey 15 = .ok (.new 87, 3) := by decide +kernel
theorem dX2_needKey_18 : decode cX2_needKey 18 = .ok (.dup, 1) := by decide +kernel
theorem dX2_needKey_19 : decode cX2_needKey 19 = .ok (.ldc 231, 2) := by decide +kernel
theorem dX2_needKey_21 : decode cX2_needKey 21 = .ok (.invokespecial 91, 3) := by decide +kernel
theorem dX2_needKey_24 : decode cX2_needKey 24 = .ok (.athrow, 1) := by decide +kernel
theorem dX2_needKey_25 : decode cX2_needKey 25 = .ok (.return_, 1) := by decide +kernel
theorem dX2_needDoor_0 : decode cX2_needDoor 0 = .ok (.iload_n 1, 1) := by decide +kernel
theorem dX2_needDoor_1 : decode cX2_needDoor 1 = .ok (.ifCond .lt 14, 3) := by decide +kernel
theorem dX2_needDoor_4 : decode cX2_needDoor 4 = .ok (.iload_n 1, 1) := by decide +kernel
theorem dX2_needDoor_5 : decode cX2_needDoor 5 = .ok (.aload_n 0, 1) := by decide +kernel
theorem dX2_needDoor_6 : decode cX2_needDoor 6 = .ok (.getfield 16, 3) := by decide +kernel
theorem dX2_needDoor_9 : decode cX2_needDoor 9 = .ok (.getfield 63, 3) := by decide +kernel
theorem dX2_needDoor_12 : decode cX2_needDoor 12 = .ok (.if_icmp .lt 13, 3) := by decide +kernel
theorem dX2_needDoor_15 : decode cX2_needDoor 15 = .ok (.new 87, 3) := by decide +kernel
theorem dX2_needDoor_18 : decode cX2_needDoor 18 = .ok (.dup, 1) := by decide +kernel
theorem dX2_needDoor_19 : decode cX2_needDoor 19 = .ok (.ldc 233, 2) := by decide +kernel
theorem dX2_needDoor_21 : decode cX2_needDoor 21 = .ok (.invokespecial 91, 3) := by decide +kernel
theorem dX2_needDoor_24 : decode cX2_needDoor 24 = .ok (.athrow, 1) := by decide +kernel
theorem dX2_needDoor_25 : decode cX2_needDoor 25 = .ok (.return_, 1) := by decide +kernel
set_option maxRecDepth 20000 in
theorem ggX2_needRights_X2_isSetOf : GoodIn wsX2_needRights wsX2_isSetOf := goodIn_r _ [8] (by decide +kernel) (by decide +kernel)
set_option maxRecDepth 20000 in
theorem gX2_needRights_X2_isSetOf : GoodIn wsX2_needRights (va_wsS RX2 202 yX2_isSetOf wsX2_isSetOf) := goodIn_app (goodIn_of _ (by decide +kernel)) ggX2_needRights_X2_isSetOf
theorem dX2_needRights_0 : decode cX2_needRights 0 = .ok (.aload_n 0, 1) := by decide +kernel
theorem dX2_needRights_1 : decode cX2_needRights 1 = .ok (.getfield 16, 3) := by decide +kernel
theorem dX2_needRights_4 : decode cX2_needRights 4 = .ok (.getfield 41, 3) := by decide +kernel
theorem dX2_needRights_7 : decode cX2_needRights 7 = .ok (.iload_n 1, 1) := by decide +kernel
theorem dX2_needRights_8 : decode cX2_needRights 8 = .ok (.invokestatic 202, 3) := by decide +kernel
theorem dX2_needRights_11 : decode cX2_needRights 11 = .ok (.ifCond .ne 13, 3) := by decide +kernel
theorem dX2_needRights_14 : decode cX2_needRights 14 = .ok (.new 34, 3) := by decide +kernel
theorem dX2_needRights_17 : decode cX2_needRights 17 = .ok (.dup, 1) := by decide +kernel
theorem dX2_needRights_18 : decode cX2_needRights 18 = .ok (.ldc 239, 2) := by decide +kernel
theorem dX2_needRights_20 : decode cX2_needRights 20 = .ok (.invokespecial 38, 3) := by decide +kernel
theorem dX2_needRights_23 : decode cX2_needRights 23 = .ok (.athrow, 1) := by decide +kernel
theorem dX2_needRights_24 : decode cX2_needRights 24 = .ok (.return_, 1) := by decide +kernel
theorem dX2_isSetOf_0 : decode cX2_isSetOf 0 = .ok (.iload_n 1, 1) := by decide +kernel
theorem dX2_isSetOf_1 : decode cX2_isSetOf 1 = .ok (.iconst 1, 1) := by decide +kernel
theorem dX2_isSetOf_2 : decode cX2_isSetOf 2 = .ok (.iload_n 0, 1) := by decide +kernel
theorem dX2_isSetOf_3 : decode cX2_isSetOf 3 = .ok (.ishl, 1) := by decide +kernel
theorem dX2_isSetOf_4 : decode cX2_isSetOf 4 = .ok (.ineg, 1) := by decide +kernel
theorem dX2_isSetOf_5 : decode cX2_isSetOf 5 = .ok (.iand, 1) := by decide +kernel
theorem dX2_isSetOf_6 : decode cX2_isSetOf 6 = .ok (.ifCond .ne 7, 3) := by decide +kernel
theorem dX2_isSetOf_9 : decode cX2_isSetOf 9 = .ok (.iconst 1, 1) := by decide +kernel
theorem dX2_isSetOf_10 : decode cX2_isSetOf 10 = .ok (.goto 4, 3) := by decide +kernel
theorem dX2_isSetOf_13 : decode cX2_isSetOf 13 = .ok (.iconst 0, 1) := by decide +kernel
theorem dX2_isSetOf_14 : decode cX2_isSetOf 14 = .ok (.ireturn, 1) := by decide +kernel
theorem dX2_contains_0 : decode cX2_contains 0 = .ok (.iload_n 1, 1) := by decide +kernel
theorem dX2_contains_1 : decode cX2_contains 1 = .ok (.iload_n 0, 1) := by decide +kernel
theorem dX2_contains_2 : decode cX2_contains 2 = .ok (.iconst (-1), 1) := by decide +kernel
theorem dX2_contains_3 : decode cX2_contains 3 = .ok (.ixor, 1) := by decide +kernel
theorem dX2_contains_4 : decode cX2_contains 4 = .ok (.iand, 1) := by decide +kernel
theorem dX2_contains_5 : decode cX2_contains 5 = .ok (.ifCond .ne 7, 3) := by decide +kernel
theorem dX2_contains_8 : decode cX2_contains 8 = .ok (.iconst 1, 1) := by decide +kernel
theorem dX2_contains_9 : decode cX2_contains 9 = .ok (.goto 4, 3) := by decide +kernel
theorem dX2_contains_12 : decode cX2_contains 12 = .ok (.iconst 0, 1) := by decide +kernel
theorem dX2_contains_13 : decode cX2_contains 13 = .ok (.ireturn, 1) := by decide +kernel
theorem dJ6_bitCount_0f7a4_0 : decode cJ6_bitCount_0f7a4 0 = .ok (.iload_n 0, 1) := by decide +kernel
theorem dJ6_bitCount_0f7a4_1 : decode cJ6_bitCount_0f7a4 1 = .ok (.iload_n 0, 1) := by decide +kernel
theorem dJ6_bitCount_0f7a4_2 : decode cJ6_bitCount_0f7a4 2 = .ok (.iconst 1, 1) := by decide +kernel
theorem dJ6_bitCount_0f7a4_3 : decode cJ6_bitCount_0f7a4 3 = .ok (.iushr, 1) := by decide +kernel
theorem dJ6_bitCount_0f7a4_4 : decode cJ6_bitCount_0f7a4 4 = .ok (.ldc_w 265, 3) := by decide +kernel
theorem dJ6_bitCount_0f7a4_7 : decode cJ6_bitCount_0f7a4 7 = .ok (.iand, 1) := by decide +kernel
theorem dJ6_bitCount_0f7a4_8 : decode cJ6_bitCount_0f7a4 8 = .ok (.isub, 1) := by decide +kernel
theorem dJ6_bitCount_0f7a4_9 : decode cJ6_bitCount_0f7a4 9 = .ok (.istore_n 0, 1) := by decide +kernel
theorem dJ6_bitCount_0f7a4_10 : decode cJ6_bitCount_0f7a4 10 = .ok (.iload_n 0, 1) := by decide +kernel
theorem dJ6_bitCount_0f7a4_11 : decode cJ6_bitCount_0f7a4 11 = .ok (.ldc_w 266, 3) := by decide +kernel
theorem dJ6_bitCount_0f7a4_14 : decode cJ6_bitCount_0f7a4 14 = .ok (.iand, 1) := by decide +kernel
theorem dJ6_bitCount_0f7a4_15 : decode cJ6_bitCount_0f7a4 15 = .ok (.iload_n 0, 1) := by decide +kernel
theorem dJ6_bitCount_0f7a4_16 : decode cJ6_bitCount_0f7a4 16 = .ok (.iconst 2, 1) := by decide +kernel
theorem dJ6_bitCount_0f7a4_17 : decode cJ6_bitCount_0f7a4 17 = .ok (.iushr, 1) := by decide +kernel
theorem dJ6_bitCount_0f7a4_18 : decode cJ6_bitCount_0f7a4 18 = .ok (.ldc_w 266, 3) := by decide +kernel
theorem dJ6_bitCount_0f7a4_21 : decode cJ6_bitCount_0f7a4 21 = .ok (.iand, 1) := by decide +kernel
theorem dJ6_bitCount_0f7a4_22 : decode cJ6_bitCount_0f7a4 22 = .ok (.iadd, 1) := by decide +kernel
theorem dJ6_bitCount_0f7a4_23 : decode cJ6_bitCount_0f7a4 23 = .ok (.istore_n 0, 1) := by decide +kernel
theorem dJ6_bitCount_0f7a4_24 : decode cJ6_bitCount_0f7a4 24 = .ok (.iload_n 0, 1) := by decide +kernel
theorem dJ6_bitCount_0f7a4_25 : decode cJ6_bitCount_0f7a4 25 = .ok (.iload_n 0, 1) := by decide +kernel
theorem dJ6_bitCount_0f7a4_26 : decode cJ6_bitCount_0f7a4 26 = .ok (.iconst 4, 1) := by decide +kernel
theorem dJ6_bitCount_0f7a4_27 : decode cJ6_bitCount_0f7a4 27 = .ok (.iushr, 1) := by decide +kernel
theorem dJ6_bitCount_0f7a4_28 : decode cJ6_bitCount_0f7a4 28 = .ok (.iadd, 1) := by decide +kernel
theorem dJ6_bitCount_0f7a4_29 : decode cJ6_bitCount_0f7a4 29 = .ok (.ldc_w 267, 3) := by decide +kernel
theorem dJ6_bitCount_0f7a4_32 : decode cJ6_bitCount_0f7a4 32 = .ok (.iand, 1) := by decide +kernel
theorem dJ6_bitCount_0f7a4_33 : decode cJ6_bitCount_0f7a4 33 = .ok (.istore_n 0, 1) := by decide +kernel
theorem dJ6_bitCount_0f7a4_34 : decode cJ6_bitCount_0f7a4 34 = .ok (.iload_n 0, 1) := by decide +kernel
theorem dJ6_bitCount_0f7a4_35 : decode cJ6_bitCount_0f7a4 35 = .ok (.iload_n 0, 1) := by decide +kernel
theorem dJ6_bitCount_0f7a4_36 : decode cJ6_bitCount_0f7a4 36 = .ok (.bipush 8, 2) := by decide +kernel
theorem dJ6_bitCount_0f7a4_38 : decode cJ6_bitCount_0f7a4 38 = .ok (.iushr, 1) := by decide +kernel
theorem dJ6_bitCount_0f7a4_39 : decode cJ6_bitCount_0f7a4 39 = .ok (.iadd, 1) := by decide +kernel
theorem dJ6_bitCount_0f7a4_40 : decode cJ6_bitCount_0f7a4 40 = .ok (.istore_n 0, 1) := by decide +kernel
theorem dJ6_bitCount_0f7a4_41 : decode cJ6_bitCount_0f7a4 41 = .ok (.iload_n 0, 1) := by decide +kernel
theorem dJ6_bitCount_0f7a4_42 : decode cJ6_bitCount_0f7a4 42 = .ok (.iload_n 0, 1) := by decide +kernel
theorem dJ6_bitCount_0f7a4_43 : decode cJ6_bitCount_0f7a4 43 = .ok (.bipush 16, 2) := by decide +kernel
theorem dJ6_bitCount_0f7a4_45 : decode cJ6_bitCount_0f7a4 45 = .ok (.iushr, 1) := by decide +kernel
theorem dJ6_bitCount_0f7a4_46 : decode cJ6_bitCount_0f7a4 46 = .ok (.iadd, 1) := by decide +kernel
theorem dJ6_bitCount_0f7a4_47 : decode cJ6_bitCount_0f7a4 47 = .ok (.istore_n 0, 1) := by decide +kernel
theorem dJ6_bitCount_0f7a4_48 : decode cJ6_bitCount_0f7a4 48 = .ok (.iload_n 0, 1) := by decide +kernel
theorem dJ6_bitCount_0f7a4_49 : decode cJ6_bitCount_0f7a4 49 = .ok (.bipush 63, 2) := by decide +kernel
theorem dJ6_bitCount_0f7a4_51 : decode cJ6_bitCount_0f7a4 51 = .ok (.iand, 1) := by decide +kernel
theorem dJ6_bitCount_0f7a4_52 : decode cJ6_bitCount_0f7a4 52 = .ok (.ireturn, 1) := by decide +kernel
