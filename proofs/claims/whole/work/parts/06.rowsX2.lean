set_option maxRecDepth 20000 in
theorem ggX2_init_X1_init : GoodIn wsX2_init wsX1_init := goodIn_r _ [17, 18, 2, 3, 13, 19, 20, 21, 22, 23, 24, 25, 26, 43, 44, 45, 46, 47, 48, 49, 50] (by decide +kernel) (by decide +kernel)
set_option maxRecDepth 20000 in
theorem gX2_init_X1_init_n15 : GoodIn wsX2_init (wsX1_init) := ggX2_init_X1_init
set_option maxRecDepth 20000 in
theorem ggX2_init_X0_init : GoodIn wsX2_init wsX0_init := goodIn_r _ [28, 29, 2, 3, 13, 30, 31, 32, 33, 34, 35, 36, 37, 51, 52, 53, 54, 55, 56, 57, 58] (by decide +kernel) (by decide +kernel)
set_option maxRecDepth 20000 in
theorem gX2_init_X0_init_n22 : GoodIn wsX2_init (wsX0_init) := ggX2_init_X0_init
theorem dX2_init_0 : decode cX2_init 0 = .ok (.aload_n 0, 1) := by decide +kernel
theorem dX2_init_1 : decode cX2_init 1 = .ok (.invokespecial 1, 3) := by decide +kernel
theorem dX2_init_4 : decode cX2_init 4 = .ok (.aload_n 0, 1) := by decide +kernel
theorem dX2_init_5 : decode cX2_init 5 = .ok (.iconst 0, 1) := by decide +kernel
theorem dX2_init_6 : decode cX2_init 6 = .ok (.putfield 7, 3) := by decide +kernel
theorem dX2_init_9 : decode cX2_init 9 = .ok (.aload_n 0, 1) := by decide +kernel
theorem dX2_init_10 : decode cX2_init 10 = .ok (.new 13, 3) := by decide +kernel
theorem dX2_init_13 : decode cX2_init 13 = .ok (.dup, 1) := by decide +kernel
theorem dX2_init_14 : decode cX2_init 14 = .ok (.invokespecial 15, 3) := by decide +kernel
theorem dX2_init_17 : decode cX2_init 17 = .ok (.putfield 16, 3) := by decide +kernel
theorem dX2_init_20 : decode cX2_init 20 = .ok (.aload_n 0, 1) := by decide +kernel
theorem dX2_init_21 : decode cX2_init 21 = .ok (.new 20, 3) := by decide +kernel
theorem dX2_init_24 : decode cX2_init 24 = .ok (.dup, 1) := by decide +kernel
theorem dX2_init_25 : decode cX2_init 25 = .ok (.invokespecial 22, 3) := by decide +kernel
theorem dX2_init_28 : decode cX2_init 28 = .ok (.putfield 23, 3) := by decide +kernel
theorem dX2_init_31 : decode cX2_init 31 = .ok (.aload_n 0, 1) := by decide +kernel
theorem dX2_init_32 : decode cX2_init 32 = .ok (.bipush 8, 2) := by decide +kernel
theorem dX2_init_34 : decode cX2_init 34 = .ok (.newarray .int, 2) := by decide +kernel
theorem dX2_init_36 : decode cX2_init 36 = .ok (.putfield 27, 3) := by decide +kernel
theorem dX2_init_39 : decode cX2_init 39 = .ok (.aload_n 0, 1) := by decide +kernel
theorem dX2_init_40 : decode cX2_init 40 = .ok (.bipush 8, 2) := by decide +kernel
theorem dX2_init_42 : decode cX2_init 42 = .ok (.newarray .int, 2) := by decide +kernel
theorem dX2_init_44 : decode cX2_init 44 = .ok (.putfield 31, 3) := by decide +kernel
theorem dX2_init_47 : decode cX2_init 47 = .ok (.return_, 1) := by decide +kernel
set_option maxRecDepth 20000 in
theorem ggX2_addKey_X1_isTaken : GoodIn wsX2_addKey wsX1_isTaken := goodIn_r _ [11, 12, 13, 27, 28, 29, 30, 31, 32, 33, 34] (by decide +kernel) (by decide +kernel)
set_option maxRecDepth 20000 in
theorem gX2_addKey_X1_isTaken : GoodIn wsX2_addKey (wsV RX2 49 RX1 yX1_isTaken wsX1_isTaken) := goodIn_app (goodIn_of _ (by decide +kernel)) ggX2_addKey_X1_isTaken
set_option maxRecDepth 20000 in
theorem ggX2_addKey_X1_takeKey : GoodIn wsX2_addKey wsX1_takeKey := goodIn_r _ [17, 12, 13, 18, 19, 20, 10, 21, 27, 28, 29, 30, 31, 32, 33, 34] (by decide +kernel) (by decide +kernel)
set_option maxRecDepth 20000 in
theorem gX2_addKey_X1_takeKey : GoodIn wsX2_addKey (wsV RX2 55 RX1 yX1_takeKey wsX1_takeKey) := goodIn_app (goodIn_of _ (by decide +kernel)) ggX2_addKey_X1_takeKey
theorem dX2_addKey_0 : decode cX2_addKey 0 = .ok (.iload_n 1, 1) := by decide +kernel
theorem dX2_addKey_1 : decode cX2_addKey 1 = .ok (.ifCond .lt 10, 3) := by decide +kernel
theorem dX2_addKey_4 : decode cX2_addKey 4 = .ok (.iload_n 1, 1) := by decide +kernel
theorem dX2_addKey_5 : decode cX2_addKey 5 = .ok (.sipush 1024, 3) := by decide +kernel
theorem dX2_addKey_8 : decode cX2_addKey 8 = .ok (.if_icmp .lt 13, 3) := by decide +kernel
theorem dX2_addKey_11 : decode cX2_addKey 11 = .ok (.new 34, 3) := by decide +kernel
theorem dX2_addKey_14 : decode cX2_addKey 14 = .ok (.dup, 1) := by decide +kernel
theorem dX2_addKey_15 : decode cX2_addKey 15 = .ok (.ldc 36, 2) := by decide +kernel
theorem dX2_addKey_17 : decode cX2_addKey 17 = .ok (.invokespecial 38, 3) := by decide +kernel
theorem dX2_addKey_20 : decode cX2_addKey 20 = .ok (.athrow, 1) := by decide +kernel
theorem dX2_addKey_21 : decode cX2_addKey 21 = .ok (.aload_n 0, 1) := by decide +kernel
theorem dX2_addKey_22 : decode cX2_addKey 22 = .ok (.getfield 16, 3) := by decide +kernel
theorem dX2_addKey_25 : decode cX2_addKey 25 = .ok (.getfield 41, 3) := by decide +kernel
theorem dX2_addKey_28 : decode cX2_addKey 28 = .ok (.bipush 8, 2) := by decide +kernel
theorem dX2_addKey_30 : decode cX2_addKey 30 = .ok (.if_icmp .lt 13, 3) := by decide +kernel
theorem dX2_addKey_33 : decode cX2_addKey 33 = .ok (.new 44, 3) := by decide +kernel
theorem dX2_addKey_36 : decode cX2_addKey 36 = .ok (.dup, 1) := by decide +kernel
theorem dX2_addKey_37 : decode cX2_addKey 37 = .ok (.ldc 46, 2) := by decide +kernel
theorem dX2_addKey_39 : decode cX2_addKey 39 = .ok (.invokespecial 48, 3) := by decide +kernel
theorem dX2_addKey_42 : decode cX2_addKey 42 = .ok (.athrow, 1) := by decide +kernel
theorem dX2_addKey_43 : decode cX2_addKey 43 = .ok (.aload_n 0, 1) := by decide +kernel
theorem dX2_addKey_44 : decode cX2_addKey 44 = .ok (.getfield 16, 3) := by decide +kernel
theorem dX2_addKey_47 : decode cX2_addKey 47 = .ok (.iload_n 1, 1) := by decide +kernel
theorem dX2_addKey_48 : decode cX2_addKey 48 = .ok (.invokevirtual 49, 3) := by decide +kernel
theorem dX2_addKey_51 : decode cX2_addKey 51 = .ok (.ifCond .eq 13, 3) := by decide +kernel
theorem dX2_addKey_54 : decode cX2_addKey 54 = .ok (.new 44, 3) := by decide +kernel
theorem dX2_addKey_57 : decode cX2_addKey 57 = .ok (.dup, 1) := by decide +kernel
theorem dX2_addKey_58 : decode cX2_addKey 58 = .ok (.ldc 53, 2) := by decide +kernel
theorem dX2_addKey_60 : decode cX2_addKey 60 = .ok (.invokespecial 48, 3) := by decide +kernel
theorem dX2_addKey_63 : decode cX2_addKey 63 = .ok (.athrow, 1) := by decide +kernel
theorem dX2_addKey_64 : decode cX2_addKey 64 = .ok (.aload_n 0, 1) := by decide +kernel
theorem dX2_addKey_65 : decode cX2_addKey 65 = .ok (.getfield 16, 3) := by decide +kernel
theorem dX2_addKey_68 : decode cX2_addKey 68 = .ok (.iload_n 1, 1) := by decide +kernel
theorem dX2_addKey_69 : decode cX2_addKey 69 = .ok (.invokevirtual 55, 3) := by decide +kernel
theorem dX2_addKey_72 : decode cX2_addKey 72 = .ok (.ireturn, 1) := by decide +kernel
set_option maxRecDepth 20000 in
theorem ggX2_addDoor_X2_needRights : GoodIn wsX2_addDoor wsX2_needRights := goodIn_ca (goodIn_r _ [9, 10, 11, 3, 12, 13, 14, 8, 15, 46, 47, 48, 49, 50, 51, 52, 53, 54, 55, 56, 57, 58] (by decide +kernel) (by decide +kernel)) (goodIn_sub (fun _ h => List.mem_cons_of_mem _ (List.mem_append_right _ h)) (by decide +kernel))
set_option maxRecDepth 20000 in
theorem gX2_addDoor_X2_needRights : GoodIn wsX2_addDoor (wsV RX2 59 RX2 yX2_needRights wsX2_needRights) := goodIn_app (goodIn_of _ (by decide +kernel)) ggX2_addDoor_X2_needRights
set_option maxRecDepth 20000 in
theorem ggX2_addDoor_X1_takeDoor : GoodIn wsX2_addDoor wsX1_takeDoor := goodIn_r _ [20, 21, 22, 23, 24, 19, 25, 26, 27, 28, 29, 30, 31, 32, 33, 34, 35, 36, 37, 38, 39, 40, 41, 42, 43, 44, 45, 51, 52, 53, 54, 55, 56, 57, 58] (by decide +kernel) (by decide +kernel)
set_option maxRecDepth 20000 in
theorem gX2_addDoor_X1_takeDoor : GoodIn wsX2_addDoor (wsV RX2 68 RX1 yX1_takeDoor wsX1_takeDoor) := goodIn_app (goodIn_of _ (by decide +kernel)) ggX2_addDoor_X1_takeDoor
theorem dX2_addDoor_0 : decode cX2_addDoor 0 = .ok (.aload_n 0, 1) := by decide +kernel
theorem dX2_addDoor_1 : decode cX2_addDoor 1 = .ok (.iload_n 1, 1) := by decide +kernel
theorem dX2_addDoor_2 : decode cX2_addDoor 2 = .ok (.invokevirtual 59, 3) := by decide +kernel
theorem dX2_addDoor_5 : decode cX2_addDoor 5 = .ok (.aload_n 0, 1) := by decide +kernel
theorem dX2_addDoor_6 : decode cX2_addDoor 6 = .ok (.getfield 16, 3) := by decide +kernel
theorem dX2_addDoor_9 : decode cX2_addDoor 9 = .ok (.getfield 63, 3) := by decide +kernel
theorem dX2_addDoor_12 : decode cX2_addDoor 12 = .ok (.bipush 8, 2) := by decide +kernel
theorem dX2_addDoor_14 : decode cX2_addDoor 14 = .ok (.if_icmp .lt 13, 3) := by decide +kernel
theorem dX2_addDoor_17 : decode cX2_addDoor 17 = .ok (.new 44, 3) := by decide +kernel
theorem dX2_addDoor_20 : decode cX2_addDoor 20 = .ok (.dup, 1) := by decide +kernel
theorem dX2_addDoor_21 : decode cX2_addDoor 21 = .ok (.ldc 66, 2) := by decide +kernel
theorem dX2_addDoor_23 : decode cX2_addDoor 23 = .ok (.invokespecial 48, 3) := by decide +kernel
theorem dX2_addDoor_26 : decode cX2_addDoor 26 = .ok (.athrow, 1) := by decide +kernel
theorem dX2_addDoor_27 : decode cX2_addDoor 27 = .ok (.aload_n 0, 1) := by decide +kernel
theorem dX2_addDoor_28 : decode cX2_addDoor 28 = .ok (.getfield 16, 3) := by decide +kernel
theorem dX2_addDoor_31 : decode cX2_addDoor 31 = .ok (.iload_n 1, 1) := by decide +kernel
theorem dX2_addDoor_32 : decode cX2_addDoor 32 = .ok (.invokevirtual 68, 3) := by decide +kernel
theorem dX2_addDoor_35 : decode cX2_addDoor 35 = .ok (.ireturn, 1) := by decide +kernel
set_option maxRecDepth 20000 in
theorem ggX2_setRights_X2_needDoor : GoodIn wsX2_setRights wsX2_needDoor := goodIn_ca (goodIn_r _ [7, 8, 9, 1, 10, 46, 47, 48, 49, 50, 51, 52, 53, 54, 55, 56, 57, 58] (by decide +kernel) (by decide +kernel)) (goodIn_sub (fun _ h => List.mem_cons_of_mem _ (List.mem_append_left _ (List.mem_append_right _ h))) (by decide +kernel))
set_option maxRecDepth 20000 in
theorem gX2_setRights_X2_needDoor : GoodIn wsX2_setRights (wsV RX2 71 RX2 yX2_needDoor wsX2_needDoor) := goodIn_app (goodIn_of _ (by decide +kernel)) ggX2_setRights_X2_needDoor
set_option maxRecDepth 20000 in
theorem ggX2_setRights_X2_needRights : GoodIn wsX2_setRights wsX2_needRights := goodIn_ca (goodIn_r _ [14, 15, 16, 1, 17, 18, 19, 6, 20, 46, 47, 48, 49, 50, 51, 52, 53, 54, 55, 56, 57, 58] (by decide +kernel) (by decide +kernel)) (goodIn_sub (fun _ h => List.mem_cons_of_mem _ (List.mem_append_right _ h)) (by decide +kernel))
set_option maxRecDepth 20000 in
theorem gX2_setRights_X2_needRights : GoodIn wsX2_setRights (wsV RX2 59 RX2 yX2_needRights wsX2_needRights) := goodIn_app (goodIn_of _ (by decide +kernel)) ggX2_setRights_X2_needRights
set_option maxRecDepth 20000 in
theorem ggX2_setRights_X1_giveRights : GoodIn wsX2_setRights wsX1_giveRights := goodIn_r _ [25, 26, 27, 28, 29, 24, 30, 31, 32, 33, 34, 35, 36, 37, 38, 39, 40, 41, 42, 43, 44, 45, 51, 52, 53, 54, 55, 56, 57, 58] (by decide +kernel) (by decide +kernel)
set_option maxRecDepth 20000 in
theorem gX2_setRights_X1_giveRights : GoodIn wsX2_setRights (wsV RX2 77 RX1 yX1_giveRights wsX1_giveRights) := goodIn_app (goodIn_of _ (by decide +kernel)) ggX2_setRights_X1_giveRights
theorem dX2_setRights_0 : decode cX2_setRights 0 = .ok (.aload_n 0, 1) := by decide +kernel
theorem dX2_setRights_1 : decode cX2_setRights 1 = .ok (.iload_n 1, 1) := by decide +kernel
theorem dX2_setRights_2 : decode cX2_setRights 2 = .ok (.invokevirtual 71, 3) := by decide +kernel
theorem dX2_setRights_5 : decode cX2_setRights 5 = .ok (.aload_n 0, 1) := by decide +kernel
theorem dX2_setRights_6 : decode cX2_setRights 6 = .ok (.iload_n 2, 1) := by decide +kernel
theorem dX2_setRights_7 : decode cX2_setRights 7 = .ok (.invokevirtual 59, 3) := by decide +kernel
theorem dX2_setRights_10 : decode cX2_setRights 10 = .ok (.aload_n 0, 1) := by decide +kernel
theorem dX2_setRights_11 : decode cX2_setRights 11 = .ok (.getfield 16, 3) := by decide +kernel
theorem dX2_setRights_14 : decode cX2_setRights 14 = .ok (.getfield 74, 3) := by decide +kernel
theorem dX2_setRights_17 : decode cX2_setRights 17 = .ok (.iload_n 1, 1) := by decide +kernel
theorem dX2_setRights_18 : decode cX2_setRights 18 = .ok (.iaload, 1) := by decide +kernel
theorem dX2_setRights_19 : decode cX2_setRights 19 = .ok (.istore_n 3, 1) := by decide +kernel
theorem dX2_setRights_20 : decode cX2_setRights 20 = .ok (.aload_n 0, 1) := by decide +kernel
theorem dX2_setRights_21 : decode cX2_setRights 21 = .ok (.getfield 16, 3) := by decide +kernel
theorem dX2_setRights_24 : decode cX2_setRights 24 = .ok (.iload_n 1, 1) := by decide +kernel
theorem dX2_setRights_25 : decode cX2_setRights 25 = .ok (.iload_n 2, 1) := by decide +kernel
theorem dX2_setRights_26 : decode cX2_setRights 26 = .ok (.invokevirtual 77, 3) := by decide +kernel
theorem dX2_setRights_29 : decode cX2_setRights 29 = .ok (.iload_n 3, 1) := by decide +kernel
theorem dX2_setRights_30 : decode cX2_setRights 30 = .ok (.ireturn, 1) := by decide +kernel
theorem dX2_keyCount_0 : decode cX2_keyCount 0 = .ok (.aload_n 0, 1) := by decide +kernel
theorem dX2_keyCount_1 : decode cX2_keyCount 1 = .ok (.getfield 16, 3) := by decide +kernel
theorem dX2_keyCount_4 : decode cX2_keyCount 4 = .ok (.getfield 41, 3) := by decide +kernel
theorem dX2_keyCount_7 : decode cX2_keyCount 7 = .ok (.ireturn, 1) := by decide +kernel
theorem dX2_doorCount_0 : decode cX2_doorCount 0 = .ok (.aload_n 0, 1) := by decide +kernel
theorem dX2_doorCount_1 : decode cX2_doorCount 1 = .ok (.getfield 16, 3) := by decide +kernel
theorem dX2_doorCount_4 : decode cX2_doorCount 4 = .ok (.getfield 63, 3) := by decide +kernel
theorem dX2_doorCount_7 : decode cX2_doorCount 7 = .ok (.ireturn, 1) := by decide +kernel
set_option maxRecDepth 20000 in
theorem ggX2_code_X2_needKey : GoodIn wsX2_code wsX2_needKey := goodIn_ca (goodIn_r _ [7, 8, 9, 1, 10, 11, 12, 13, 14, 15, 16, 17, 18, 19, 20, 21, 22, 23] (by decide +kernel) (by decide +kernel)) (goodIn_sub (fun _ h => List.mem_cons_of_mem _ (List.mem_append_right _ h)) (by decide +kernel))
set_option maxRecDepth 20000 in
theorem gX2_code_X2_needKey : GoodIn wsX2_code (wsV RX2 81 RX2 yX2_needKey wsX2_needKey) := goodIn_app (goodIn_of _ (by decide +kernel)) ggX2_code_X2_needKey
theorem dX2_code_0 : decode cX2_code 0 = .ok (.aload_n 0, 1) := by decide +kernel
theorem dX2_code_1 : decode cX2_code 1 = .ok (.iload_n 1, 1) := by decide +kernel
theorem dX2_code_2 : decode cX2_code 2 = .ok (.invokevirtual 81, 3) := by decide +kernel
theorem dX2_code_5 : decode cX2_code 5 = .ok (.aload_n 0, 1) := by decide +kernel
theorem dX2_code_6 : decode cX2_code 6 = .ok (.getfield 16, 3) := by decide +kernel
theorem dX2_code_9 : decode cX2_code 9 = .ok (.getfield 84, 3) := by decide +kernel
theorem dX2_code_12 : decode cX2_code 12 = .ok (.iload_n 1, 1) := by decide +kernel
theorem dX2_code_13 : decode cX2_code 13 = .ok (.iaload, 1) := by decide +kernel
theorem dX2_code_14 : decode cX2_code 14 = .ok (.ireturn, 1) := by decide +kernel
set_option maxRecDepth 20000 in
theorem ggX2_pins_X2_needDoor : GoodIn wsX2_pins wsX2_needDoor := goodIn_ca (goodIn_r _ [8, 1, 2, 3, 9, 16, 17, 18, 19, 20, 21, 22, 23, 24, 25, 26, 27, 28] (by decide +kernel) (by decide +kernel)) (goodIn_sub (fun _ h => List.mem_cons_of_mem _ (List.mem_append_right _ h)) (by decide +kernel))
set_option maxRecDepth 20000 in
theorem gX2_pins_X2_needDoor : GoodIn wsX2_pins (wsV RX2 71 RX2 yX2_needDoor wsX2_needDoor) := goodIn_app (goodIn_of _ (by decide +kernel)) ggX2_pins_X2_needDoor
set_option maxRecDepth 20000 in
theorem ggX2_pins_X1_pinsAt : GoodIn wsX2_pins wsX1_pinsAt := goodIn_r _ [14, 15, 21, 22, 23, 24, 25, 26, 27, 28] (by decide +kernel) (by decide +kernel)
set_option maxRecDepth 20000 in
theorem gX2_pins_X1_pinsAt : GoodIn wsX2_pins (wsV RX2 92 RX1 yX1_pinsAt wsX1_pinsAt) := goodIn_app (goodIn_of _ (by decide +kernel)) ggX2_pins_X1_pinsAt
theorem dX2_pins_0 : decode cX2_pins 0 = .ok (.aload_n 0, 1) := by decide +kernel
theorem dX2_pins_1 : decode cX2_pins 1 = .ok (.iload_n 1, 1) := by decide +kernel
theorem dX2_pins_2 : decode cX2_pins 2 = .ok (.invokevirtual 71, 3) := by decide +kernel
theorem dX2_pins_5 : decode cX2_pins 5 = .ok (.iload_n 2, 1) := by decide +kernel
theorem dX2_pins_6 : decode cX2_pins 6 = .ok (.ifCond .lt 8, 3) := by decide +kernel
theorem dX2_pins_9 : decode cX2_pins 9 = .ok (.iload_n 2, 1) := by decide +kernel
theorem dX2_pins_10 : decode cX2_pins 10 = .ok (.iconst 5, 1) := by decide +kernel
theorem dX2_pins_11 : decode cX2_pins 11 = .ok (.if_icmp .lt 13, 3) := by decide +kernel
theorem dX2_pins_14 : decode cX2_pins 14 = .ok (.new 87, 3) := by decide +kernel
theorem dX2_pins_17 : decode cX2_pins 17 = .ok (.dup, 1) := by decide +kernel
theorem dX2_pins_18 : decode cX2_pins 18 = .ok (.ldc 89, 2) := by decide +kernel
theorem dX2_pins_20 : decode cX2_pins 20 = .ok (.invokespecial 91, 3) := by decide +kernel
theorem dX2_pins_23 : decode cX2_pins 23 = .ok (.athrow, 1) := by decide +kernel
theorem dX2_pins_24 : decode cX2_pins 24 = .ok (.aload_n 0, 1) := by decide +kernel
theorem dX2_pins_25 : decode cX2_pins 25 = .ok (.getfield 16, 3) := by decide +kernel
theorem dX2_pins_28 : decode cX2_pins 28 = .ok (.iload_n 1, 1) := by decide +kernel
theorem dX2_pins_29 : decode cX2_pins 29 = .ok (.iload_n 2, 1) := by decide +kernel
theorem dX2_pins_30 : decode cX2_pins 30 = .ok (.invokevirtual 92, 3) := by decide +kernel
theorem dX2_pins_33 : decode cX2_pins 33 = .ok (.ireturn, 1) := by decide +kernel
set_option maxRecDepth 20000 in
theorem ggX2_opens_X2_needKey : GoodIn wsX2_opens wsX2_needKey := goodIn_ca (goodIn_r _ [6, 7, 8, 1, 9, 24, 25, 26, 27, 28, 29, 30, 31, 32, 33, 34, 35, 36] (by decide +kernel) (by decide +kernel)) (goodIn_sub (fun _ h => List.mem_cons_of_mem _ (List.mem_append_right _ h)) (by decide +kernel))
set_option maxRecDepth 20000 in
theorem gX2_opens_X2_needKey : GoodIn wsX2_opens (wsV RX2 81 RX2 yX2_needKey wsX2_needKey) := goodIn_app (goodIn_of _ (by decide +kernel)) ggX2_opens_X2_needKey
set_option maxRecDepth 20000 in
theorem ggX2_opens_X2_needDoor : GoodIn wsX2_opens wsX2_needDoor := goodIn_ca (goodIn_r _ [13, 7, 8, 1, 14, 24, 25, 26, 27, 28, 29, 30, 31, 32, 33, 34, 35, 36] (by decide +kernel) (by decide +kernel)) (goodIn_sub (fun _ h => List.mem_cons_of_mem _ (List.mem_append_right _ h)) (by decide +kernel))
set_option maxRecDepth 20000 in
theorem gX2_opens_X2_needDoor : GoodIn wsX2_opens (wsV RX2 71 RX2 yX2_needDoor wsX2_needDoor) := goodIn_app (goodIn_of _ (by decide +kernel)) ggX2_opens_X2_needDoor
set_option maxRecDepth 20000 in
theorem ggX2_opens_X1_keyOpens : GoodIn wsX2_opens wsX1_keyOpens := goodIn_r _ [19, 20, 21, 22, 5, 23, 29, 30, 31, 32, 33, 34, 35, 36] (by decide +kernel) (by decide +kernel)
set_option maxRecDepth 20000 in
theorem gX2_opens_X1_keyOpens : GoodIn wsX2_opens (wsV RX2 96 RX1 yX1_keyOpens wsX1_keyOpens) := goodIn_app (goodIn_of _ (by decide +kernel)) ggX2_opens_X1_keyOpens
theorem dX2_opens_0 : decode cX2_opens 0 = .ok (.aload_n 0, 1) := by decide +kernel
theorem dX2_opens_1 : decode cX2_opens 1 = .ok (.iload_n 1, 1) := by decide +kernel
theorem dX2_opens_2 : decode cX2_opens 2 = .ok (.invokevirtual 81, 3) := by decide +kernel
theorem dX2_opens_5 : decode cX2_opens 5 = .ok (.aload_n 0, 1) := by decide +kernel
theorem dX2_opens_6 : decode cX2_opens 6 = .ok (.iload_n 2, 1) := by decide +kernel
theorem dX2_opens_7 : decode cX2_opens 7 = .ok (.invokevirtual 71, 3) := by decide +kernel
theorem dX2_opens_10 : decode cX2_opens 10 = .ok (.aload_n 0, 1) := by decide +kernel
theorem dX2_opens_11 : decode cX2_opens 11 = .ok (.getfield 16, 3) := by decide +kernel
theorem dX2_opens_14 : decode cX2_opens 14 = .ok (.iload_n 1, 1) := by decide +kernel
theorem dX2_opens_15 : decode cX2_opens 15 = .ok (.iload_n 2, 1) := by decide +kernel
theorem dX2_opens_16 : decode cX2_opens 16 = .ok (.invokevirtual 96, 3) := by decide +kernel
theorem dX2_opens_19 : decode cX2_opens 19 = .ok (.ireturn, 1) := by decide +kernel
set_option maxRecDepth 20000 in
theorem ggX2_openers_X2_needDoor : GoodIn wsX2_openers wsX2_needDoor := goodIn_ca (goodIn_r _ [6, 7, 8, 1, 9, 24, 25, 26, 27, 28, 29, 30, 31, 32, 33, 34, 35, 36] (by decide +kernel) (by decide +kernel)) (goodIn_sub (fun _ h => List.mem_cons_of_mem _ (List.mem_append_right _ h)) (by decide +kernel))
set_option maxRecDepth 20000 in
theorem gX2_openers_X2_needDoor : GoodIn wsX2_openers (wsV RX2 71 RX2 yX2_needDoor wsX2_needDoor) := goodIn_app (goodIn_of _ (by decide +kernel)) ggX2_openers_X2_needDoor
set_option maxRecDepth 20000 in
theorem ggX2_openers_X1_openersOf : GoodIn wsX2_openers wsX1_openersOf := goodIn_r _ [14, 15, 16, 17, 18, 13, 19, 20, 21, 22, 5, 23, 29, 30, 31, 32, 33, 34, 35, 36] (by decide +kernel) (by decide +kernel)
set_option maxRecDepth 20000 in
theorem gX2_openers_X1_openersOf : GoodIn wsX2_openers (wsV RX2 100 RX1 yX1_openersOf wsX1_openersOf) := goodIn_app (goodIn_of _ (by decide +kernel)) ggX2_openers_X1_openersOf
theorem dX2_openers_0 : decode cX2_openers 0 = .ok (.aload_n 0, 1) := by decide +kernel
theorem dX2_openers_1 : decode cX2_openers 1 = .ok (.iload_n 1, 1) := by decide +kernel
theorem dX2_openers_2 : decode cX2_openers 2 = .ok (.invokevirtual 71, 3) := by decide +kernel
theorem dX2_openers_5 : decode cX2_openers 5 = .ok (.aload_n 0, 1) := by decide +kernel
theorem dX2_openers_6 : decode cX2_openers 6 = .ok (.getfield 16, 3) := by decide +kernel
theorem dX2_openers_9 : decode cX2_openers 9 = .ok (.iload_n 1, 1) := by decide +kernel
theorem dX2_openers_10 : decode cX2_openers 10 = .ok (.invokevirtual 100, 3) := by decide +kernel
theorem dX2_openers_13 : decode cX2_openers 13 = .ok (.ireturn, 1) := by decide +kernel
set_option maxRecDepth 20000 in
theorem ggX2_doors_X2_needKey : GoodIn wsX2_doors wsX2_needKey := goodIn_ca (goodIn_r _ [6, 7, 8, 1, 9, 24, 25, 26, 27, 28, 29, 30, 31, 32, 33, 34, 35, 36] (by decide +kernel) (by decide +kernel)) (goodIn_sub (fun _ h => List.mem_cons_of_mem _ (List.mem_append_right _ h)) (by decide +kernel))
set_option maxRecDepth 20000 in
theorem gX2_doors_X2_needKey : GoodIn wsX2_doors (wsV RX2 81 RX2 yX2_needKey wsX2_needKey) := goodIn_app (goodIn_of _ (by decide +kernel)) ggX2_doors_X2_needKey
set_option maxRecDepth 20000 in
theorem ggX2_doors_X1_doorsOf : GoodIn wsX2_doors wsX1_doorsOf := goodIn_r _ [14, 15, 16, 17, 18, 13, 19, 20, 21, 22, 5, 23, 29, 30, 31, 32, 33, 34, 35, 36] (by decide +kernel) (by decide +kernel)
set_option maxRecDepth 20000 in
theorem gX2_doors_X1_doorsOf : GoodIn wsX2_doors (wsV RX2 103 RX1 yX1_doorsOf wsX1_doorsOf) := goodIn_app (goodIn_of _ (by decide +kernel)) ggX2_doors_X1_doorsOf
theorem dX2_doors_0 : decode cX2_doors 0 = .ok (.aload_n 0, 1) := by decide +kernel
theorem dX2_doors_1 : decode cX2_doors 1 = .ok (.iload_n 1, 1) := by decide +kernel
theorem dX2_doors_2 : decode cX2_doors 2 = .ok (.invokevirtual 81, 3) := by decide +kernel
theorem dX2_doors_5 : decode cX2_doors 5 = .ok (.aload_n 0, 1) := by decide +kernel
theorem dX2_doors_6 : decode cX2_doors 6 = .ok (.getfield 16, 3) := by decide +kernel
theorem dX2_doors_9 : decode cX2_doors 9 = .ok (.iload_n 1, 1) := by decide +kernel
theorem dX2_doors_10 : decode cX2_doors 10 = .ok (.invokevirtual 103, 3) := by decide +kernel
theorem dX2_doors_13 : decode cX2_doors 13 = .ok (.ireturn, 1) := by decide +kernel
set_option maxRecDepth 20000 in
theorem ggX2_strays_X1_countStrays : GoodIn wsX2_strays wsX1_countStrays := goodIn_r _ [6, 7, 8, 9, 10, 11, 5, 12, 13, 14, 15, 16, 17, 18, 19, 20, 21, 22, 23, 24, 25, 26, 27, 28, 29, 35, 36, 37, 38, 39, 40, 41, 42] (by decide +kernel) (by decide +kernel)
set_option maxRecDepth 20000 in
theorem gX2_strays_X1_countStrays : GoodIn wsX2_strays (wsV RX2 106 RX1 yX1_countStrays wsX1_countStrays) := goodIn_app (goodIn_of _ (by decide +kernel)) ggX2_strays_X1_countStrays
theorem dX2_strays_0 : decode cX2_strays 0 = .ok (.aload_n 0, 1) := by decide +kernel
theorem dX2_strays_1 : decode cX2_strays 1 = .ok (.getfield 16, 3) := by decide +kernel
theorem dX2_strays_4 : decode cX2_strays 4 = .ok (.invokevirtual 106, 3) := by decide +kernel
theorem dX2_strays_7 : decode cX2_strays 7 = .ok (.ireturn, 1) := by decide +kernel
set_option maxRecDepth 20000 in
theorem ggX2_codes_X2_needDoor : GoodIn wsX2_codes wsX2_needDoor := goodIn_ca (goodIn_r _ [6, 7, 8, 1, 9, 27, 28, 29, 30, 31, 32, 33, 34, 35, 36, 37, 38, 39] (by decide +kernel) (by decide +kernel)) (goodIn_sub (fun _ h => List.mem_cons_of_mem _ (List.mem_append_right _ h)) (by decide +kernel))
set_option maxRecDepth 20000 in
theorem gX2_codes_X2_needDoor : GoodIn wsX2_codes (wsV RX2 71 RX2 yX2_needDoor wsX2_needDoor) := goodIn_app (goodIn_of _ (by decide +kernel)) ggX2_codes_X2_needDoor
set_option maxRecDepth 20000 in
theorem ggX2_codes_X1_countCodes : GoodIn wsX2_codes wsX1_countCodes := goodIn_r _ [14, 15, 16, 17, 13, 18, 19, 20, 21, 22, 23, 24, 25, 26, 32, 33, 34, 35, 36, 37, 38, 39] (by decide +kernel) (by decide +kernel)
set_option maxRecDepth 20000 in
theorem gX2_codes_X1_countCodes : GoodIn wsX2_codes (wsV RX2 110 RX1 yX1_countCodes wsX1_countCodes) := goodIn_app (goodIn_of _ (by decide +kernel)) ggX2_codes_X1_countCodes
theorem dX2_codes_0 : decode cX2_codes 0 = .ok (.aload_n 0, 1) := by decide +kernel
theorem dX2_codes_1 : decode cX2_codes 1 = .ok (.iload_n 1, 1) := by decide +kernel
theorem dX2_codes_2 : decode cX2_codes 2 = .ok (.invokevirtual 71, 3) := by decide +kernel
theorem dX2_codes_5 : decode cX2_codes 5 = .ok (.aload_n 0, 1) := by decide +kernel
theorem dX2_codes_6 : decode cX2_codes 6 = .ok (.getfield 16, 3) := by decide +kernel
theorem dX2_codes_9 : decode cX2_codes 9 = .ok (.iload_n 1, 1) := by decide +kernel
theorem dX2_codes_10 : decode cX2_codes 10 = .ok (.invokevirtual 110, 3) := by decide +kernel
theorem dX2_codes_13 : decode cX2_codes 13 = .ok (.ireturn, 1) := by decide +kernel
set_option maxRecDepth 20000 in
theorem ggX2_isAbove_X2_needKey : GoodIn wsX2_isAbove wsX2_needKey := goodIn_ca (goodIn_r _ [6, 7, 8, 1, 9, 25, 26, 27, 28, 29, 30, 31, 32, 33, 34, 35, 36, 37] (by decide +kernel) (by decide +kernel)) (goodIn_sub (fun _ h => List.mem_cons_of_mem _ (List.mem_append_right _ h)) (by decide +kernel))
set_option maxRecDepth 20000 in
theorem gX2_isAbove_X2_needKey : GoodIn wsX2_isAbove (wsV RX2 81 RX2 yX2_needKey wsX2_needKey) := goodIn_app (goodIn_of _ (by decide +kernel)) ggX2_isAbove_X2_needKey
set_option maxRecDepth 20000 in
theorem ggX2_isAbove_X1_doorsOf : GoodIn wsX2_isAbove wsX1_doorsOf := goodIn_r _ [14, 15, 16, 17, 18, 13, 19, 20, 21, 22, 5, 23, 30, 31, 32, 33, 34, 35, 36, 37] (by decide +kernel) (by decide +kernel)
set_option maxRecDepth 20000 in
theorem gX2_isAbove_X1_doorsOf : GoodIn wsX2_isAbove (wsV RX2 103 RX1 yX1_doorsOf wsX1_doorsOf) := goodIn_app (goodIn_of _ (by decide +kernel)) ggX2_isAbove_X1_doorsOf
set_option maxRecDepth 20000 in
theorem ggX2_isAbove_X2_contains : GoodIn wsX2_isAbove wsX2_contains := goodIn_r _ [23] (by decide +kernel) (by decide +kernel)
set_option maxRecDepth 20000 in
theorem gX2_isAbove_X2_contains : GoodIn wsX2_isAbove (va_wsS RX2 113 yX2_contains wsX2_contains) := goodIn_app (goodIn_of _ (by decide +kernel)) ggX2_isAbove_X2_contains
theorem dX2_isAbove_0 : decode cX2_isAbove 0 = .ok (.aload_n 0, 1) := by decide +kernel
theorem dX2_isAbove_1 : decode cX2_isAbove 1 = .ok (.iload_n 1, 1) := by decide +kernel
theorem dX2_isAbove_2 : decode cX2_isAbove 2 = .ok (.invokevirtual 81, 3) := by decide +kernel
theorem dX2_isAbove_5 : decode cX2_isAbove 5 = .ok (.aload_n 0, 1) := by decide +kernel
theorem dX2_isAbove_6 : decode cX2_isAbove 6 = .ok (.iload_n 2, 1) := by decide +kernel
theorem dX2_isAbove_7 : decode cX2_isAbove 7 = .ok (.invokevirtual 81, 3) := by decide +kernel
theorem dX2_isAbove_10 : decode cX2_isAbove 10 = .ok (.aload_n 0, 1) := by decide +kernel
theorem dX2_isAbove_11 : decode cX2_isAbove 11 = .ok (.getfield 16, 3) := by decide +kernel
theorem dX2_isAbove_14 : decode cX2_isAbove 14 = .ok (.iload_n 1, 1) := by decide +kernel
theorem dX2_isAbove_15 : decode cX2_isAbove 15 = .ok (.invokevirtual 103, 3) := by decide +kernel
theorem dX2_isAbove_18 : decode cX2_isAbove 18 = .ok (.istore_n 3, 1) := by decide +kernel
theorem dX2_isAbove_19 : decode cX2_isAbove 19 = .ok (.aload_n 0, 1) := by decide +kernel
theorem dX2_isAbove_20 : decode cX2_isAbove 20 = .ok (.getfield 16, 3) := by decide +kernel
theorem dX2_isAbove_23 : decode cX2_isAbove 23 = .ok (.iload_n 2, 1) := by decide +kernel
theorem dX2_isAbove_24 : decode cX2_isAbove 24 = .ok (.invokevirtual 103, 3) := by decide +kernel
theorem dX2_isAbove_27 : decode cX2_isAbove 27 = .ok (.istore 4, 2) := by decide +kernel
theorem dX2_isAbove_29 : decode cX2_isAbove 29 = .ok (.iload_n 3, 1) := by decide +kernel
theorem dX2_isAbove_30 : decode cX2_isAbove 30 = .ok (.iload 4, 2) := by decide +kernel
theorem dX2_isAbove_32 : decode cX2_isAbove 32 = .ok (.invokestatic 113, 3) := by decide +kernel
theorem dX2_isAbove_35 : decode cX2_isAbove 35 = .ok (.ifCond .eq 13, 3) := by decide +kernel
theorem dX2_isAbove_38 : decode cX2_isAbove 38 = .ok (.iload_n 3, 1) := by decide +kernel
theorem dX2_isAbove_39 : decode cX2_isAbove 39 = .ok (.iload 4, 2) := by decide +kernel
theorem dX2_isAbove_41 : decode cX2_isAbove 41 = .ok (.if_icmp .eq 7, 3) := by decide +kernel
theorem dX2_isAbove_44 : decode cX2_isAbove 44 = .ok (.iconst 1, 1) := by decide +kernel
theorem dX2_isAbove_45 : decode cX2_isAbove 45 = .ok (.goto 4, 3) := by decide +kernel
theorem dX2_isAbove_48 : decode cX2_isAbove 48 = .ok (.iconst 0, 1) := by decide +kernel
theorem dX2_isAbove_49 : decode cX2_isAbove 49 = .ok (.ireturn, 1) := by decide +kernel
theorem dX2_work_0 : decode cX2_work 0 = .ok (.aload_n 0, 1) := by decide +kernel
theorem dX2_work_1 : decode cX2_work 1 = .ok (.getfield 16, 3) := by decide +kernel
theorem dX2_work_4 : decode cX2_work 4 = .ok (.getfield 116, 3) := by decide +kernel
theorem dX2_work_7 : decode cX2_work 7 = .ok (.ireturn, 1) := by decide +kernel
set_option maxRecDepth 20000 in
theorem ggX2_replace_X2_needKey : GoodIn wsX2_replace wsX2_needKey := goodIn_ca (goodIn_r _ [8, 9, 10, 1, 11, 87, 88, 89, 90, 91, 92, 93, 94, 95, 96, 97, 98, 99] (by decide +kernel) (by decide +kernel)) (goodIn_sub (fun _ h => List.mem_cons_of_mem _ (List.mem_append_right _ h)) (by decide +kernel))
set_option maxRecDepth 20000 in
theorem gX2_replace_X2_needKey : GoodIn wsX2_replace (wsV RX2 81 RX2 yX2_needKey wsX2_needKey) := goodIn_app (goodIn_of _ (by decide +kernel)) ggX2_replace_X2_needKey
set_option maxRecDepth 20000 in
theorem ggX2_replace_X1_bestCodeFor : GoodIn wsX2_replace wsX1_bestCodeFor := goodIn_r _ [16, 17, 18, 19, 20, 21, 22, 15, 23, 24, 25, 26, 27, 28, 29, 30, 31, 32, 33, 34, 35, 36, 37, 38, 39, 40, 41, 42, 7, 43, 44, 45, 46, 47, 48, 49, 50, 51, 52, 53, 54, 55, 56, 57, 58, 59, 92, 93, 94, 95, 96, 97, 98, 99] (by decide +kernel) (by decide +kernel)
set_option maxRecDepth 20000 in
theorem gX2_replace_X1_bestCodeFor : GoodIn wsX2_replace (wsV RX2 119 RX1 yX1_bestCodeFor wsX1_bestCodeFor) := goodIn_app (goodIn_of _ (by decide +kernel)) ggX2_replace_X1_bestCodeFor
set_option maxRecDepth 20000 in
theorem ggX2_replace_X1_giveCode : GoodIn wsX2_replace wsX1_giveCode := goodIn_r _ [63, 33, 25, 17, 26, 27, 15, 28, 64, 65, 66, 67, 52, 19, 68, 20, 21, 22, 23, 24, 53, 54, 55, 56, 57, 58, 59, 92, 93, 94, 95, 96, 97, 98, 99] (by decide +kernel) (by decide +kernel)
set_option maxRecDepth 20000 in
theorem gX2_replace_X1_giveCode : GoodIn wsX2_replace (wsV RX2 122 RX1 yX1_giveCode wsX1_giveCode) := goodIn_app (goodIn_of _ (by decide +kernel)) ggX2_replace_X1_giveCode
set_option maxRecDepth 20000 in
theorem ggX2_replace_X0_voidCopiesOf : GoodIn wsX2_replace wsX0_voidCopiesOf := goodIn_r _ [73, 74, 75, 76, 77, 78, 72, 79, 80, 81, 82, 83, 84, 85, 86, 100, 101, 102, 103, 104, 105, 106, 107] (by decide +kernel) (by decide +kernel)
set_option maxRecDepth 20000 in
theorem gX2_replace_X0_voidCopiesOf : GoodIn wsX2_replace (wsV RX2 125 RX0 yX0_voidCopiesOf wsX0_voidCopiesOf) := goodIn_app (goodIn_of _ (by decide +kernel)) ggX2_replace_X0_voidCopiesOf
theorem dX2_replace_0 : decode cX2_replace 0 = .ok (.aload_n 0, 1) := by decide +kernel
theorem dX2_replace_1 : decode cX2_replace 1 = .ok (.iload_n 1, 1) := by decide +kernel
theorem dX2_replace_2 : decode cX2_replace 2 = .ok (.invokevirtual 81, 3) := by decide +kernel
theorem dX2_replace_5 : decode cX2_replace 5 = .ok (.aload_n 0, 1) := by decide +kernel
theorem dX2_replace_6 : decode cX2_replace 6 = .ok (.getfield 16, 3) := by decide +kernel
theorem dX2_replace_9 : decode cX2_replace 9 = .ok (.iload_n 1, 1) := by decide +kernel
theorem dX2_replace_10 : decode cX2_replace 10 = .ok (.invokevirtual 119, 3) := by decide +kernel
theorem dX2_replace_13 : decode cX2_replace 13 = .ok (.istore_n 2, 1) := by decide +kernel
theorem dX2_replace_14 : decode cX2_replace 14 = .ok (.iload_n 2, 1) := by decide +kernel
theorem dX2_replace_15 : decode cX2_replace 15 = .ok (.iconst (-1), 1) := by decide +kernel
theorem dX2_replace_16 : decode cX2_replace 16 = .ok (.if_icmp .ne 5, 3) := by decide +kernel
theorem dX2_replace_19 : decode cX2_replace 19 = .ok (.iconst (-1), 1) := by decide +kernel
theorem dX2_replace_20 : decode cX2_replace 20 = .ok (.ireturn, 1) := by decide +kernel
theorem dX2_replace_21 : decode cX2_replace 21 = .ok (.aload_n 0, 1) := by decide +kernel
theorem dX2_replace_22 : decode cX2_replace 22 = .ok (.getfield 16, 3) := by decide +kernel
theorem dX2_replace_25 : decode cX2_replace 25 = .ok (.iload_n 1, 1) := by decide +kernel
theorem dX2_replace_26 : decode cX2_replace 26 = .ok (.iload_n 2, 1) := by decide +kernel
theorem dX2_replace_27 : decode cX2_replace 27 = .ok (.invokevirtual 122, 3) := by decide +kernel
theorem dX2_replace_30 : decode cX2_replace 30 = .ok (.aload_n 0, 1) := by decide +kernel
theorem dX2_replace_31 : decode cX2_replace 31 = .ok (.getfield 23, 3) := by decide +kernel
theorem dX2_replace_34 : decode cX2_replace 34 = .ok (.iload_n 1, 1) := by decide +kernel
theorem dX2_replace_35 : decode cX2_replace 35 = .ok (.aload_n 0, 1) := by decide +kernel
theorem dX2_replace_36 : decode cX2_replace 36 = .ok (.getfield 7, 3) := by decide +kernel
theorem dX2_replace_39 : decode cX2_replace 39 = .ok (.invokevirtual 125, 3) := by decide +kernel
theorem dX2_replace_42 : decode cX2_replace 42 = .ok (.iload_n 2, 1) := by decide +kernel
theorem dX2_replace_43 : decode cX2_replace 43 = .ok (.ireturn, 1) := by decide +kernel
set_option maxRecDepth 20000 in
theorem ggX2_cut_X2_needKey : GoodIn wsX2_cut wsX2_needKey := goodIn_ca (goodIn_r _ [9, 10, 11, 12, 13, 22, 23, 24, 25, 26, 35, 36, 37, 38, 39, 40, 41, 42] (by decide +kernel) (by decide +kernel)) (goodIn_sub (fun _ h => List.mem_cons_of_mem _ (List.mem_append_right _ h)) (by decide +kernel))
set_option maxRecDepth 20000 in
theorem gX2_cut_X2_needKey : GoodIn wsX2_cut (wsV RX2 81 RX2 yX2_needKey wsX2_needKey) := goodIn_app (goodIn_of _ (by decide +kernel)) ggX2_cut_X2_needKey
set_option maxRecDepth 20000 in
theorem ggX2_cut_X0_takeCopy : GoodIn wsX2_cut wsX0_takeCopy := goodIn_r _ [18, 19, 20, 21, 27, 28, 29, 30, 31, 32, 33, 34] (by decide +kernel) (by decide +kernel)
set_option maxRecDepth 20000 in
theorem gX2_cut_X0_takeCopy : GoodIn wsX2_cut (wsV RX2 133 RX0 yX0_takeCopy wsX0_takeCopy) := goodIn_app (goodIn_of _ (by decide +kernel)) ggX2_cut_X0_takeCopy
theorem dX2_cut_0 : decode cX2_cut 0 = .ok (.aload_n 0, 1) := by decide +kernel
theorem dX2_cut_1 : decode cX2_cut 1 = .ok (.iload_n 1, 1) := by decide +kernel
theorem dX2_cut_2 : decode cX2_cut 2 = .ok (.invokevirtual 81, 3) := by decide +kernel
theorem dX2_cut_5 : decode cX2_cut 5 = .ok (.aload_n 0, 1) := by decide +kernel
theorem dX2_cut_6 : decode cX2_cut 6 = .ok (.getfield 23, 3) := by decide +kernel
theorem dX2_cut_9 : decode cX2_cut 9 = .ok (.getfield 128, 3) := by decide +kernel
theorem dX2_cut_12 : decode cX2_cut 12 = .ok (.bipush 24, 2) := by decide +kernel
theorem dX2_cut_14 : decode cX2_cut 14 = .ok (.if_icmp .lt 13, 3) := by decide +kernel
theorem dX2_cut_17 : decode cX2_cut 17 = .ok (.new 44, 3) := by decide +kernel
theorem dX2_cut_20 : decode cX2_cut 20 = .ok (.dup, 1) := by decide +kernel
theorem dX2_cut_21 : decode cX2_cut 21 = .ok (.ldc 131, 2) := by decide +kernel
theorem dX2_cut_23 : decode cX2_cut 23 = .ok (.invokespecial 48, 3) := by decide +kernel
theorem dX2_cut_26 : decode cX2_cut 26 = .ok (.athrow, 1) := by decide +kernel
theorem dX2_cut_27 : decode cX2_cut 27 = .ok (.aload_n 0, 1) := by decide +kernel
theorem dX2_cut_28 : decode cX2_cut 28 = .ok (.getfield 23, 3) := by decide +kernel
theorem dX2_cut_31 : decode cX2_cut 31 = .ok (.iload_n 1, 1) := by decide +kernel
theorem dX2_cut_32 : decode cX2_cut 32 = .ok (.invokevirtual 133, 3) := by decide +kernel
theorem dX2_cut_35 : decode cX2_cut 35 = .ok (.ireturn, 1) := by decide +kernel
set_option maxRecDepth 20000 in
theorem ggX2_lend_X2_needCopy : GoodIn wsX2_lend wsX2_needCopy := goodIn_ca (goodIn_r _ [9, 10, 11, 3, 12, 42, 43, 44, 45, 46, 47, 48, 49, 50, 51, 52, 53, 54] (by decide +kernel) (by decide +kernel)) (goodIn_sub (fun _ h => List.mem_cons_of_mem _ (List.mem_append_left _ (List.mem_append_right _ h))) (by decide +kernel))
set_option maxRecDepth 20000 in
theorem gX2_lend_X2_needCopy : GoodIn wsX2_lend (wsV RX2 136 RX2 yX2_needCopy wsX2_needCopy) := goodIn_app (goodIn_of _ (by decide +kernel)) ggX2_lend_X2_needCopy
set_option maxRecDepth 20000 in
theorem ggX2_lend_X2_needPerson : GoodIn wsX2_lend wsX2_needPerson := goodIn_ca (goodIn_r _ [16, 10, 11] (by decide +kernel) (by decide +kernel)) (goodIn_sub (fun _ h => List.mem_cons_of_mem _ (List.mem_append_left _ (List.mem_append_right _ h))) (by decide +kernel))
set_option maxRecDepth 20000 in
theorem gX2_lend_X2_needPerson : GoodIn wsX2_lend (wsV RX2 139 RX2 yX2_needPerson wsX2_needPerson) := goodIn_app (goodIn_of _ (by decide +kernel)) ggX2_lend_X2_needPerson
set_option maxRecDepth 20000 in
theorem ggX2_lend_X2_needDays : GoodIn wsX2_lend wsX2_needDays := goodIn_ca (goodIn_r _ [20, 21, 22] (by decide +kernel) (by decide +kernel)) (goodIn_sub (fun _ h => List.mem_cons_of_mem _ (List.mem_append_right _ h)) (by decide +kernel))
set_option maxRecDepth 20000 in
theorem gX2_lend_X2_needDays : GoodIn wsX2_lend (wsV RX2 142 RX2 yX2_needDays wsX2_needDays) := goodIn_app (goodIn_of _ (by decide +kernel)) ggX2_lend_X2_needDays
set_option maxRecDepth 20000 in
theorem ggX2_lend_X0_canBeLent : GoodIn wsX2_lend wsX0_canBeLent := goodIn_r _ [27, 28, 29, 47, 48, 49, 50, 51, 52, 53, 54] (by decide +kernel) (by decide +kernel)
set_option maxRecDepth 20000 in
theorem gX2_lend_X0_canBeLent : GoodIn wsX2_lend (wsV RX2 145 RX0 yX0_canBeLent wsX0_canBeLent) := goodIn_app (goodIn_of _ (by decide +kernel)) ggX2_lend_X0_canBeLent
set_option maxRecDepth 20000 in
theorem ggX2_lend_X0_startLoan : GoodIn wsX2_lend wsX0_startLoan := goodIn_r _ [33, 29, 28, 34, 35, 36, 37, 38, 39, 40, 26, 41, 47, 48, 49, 50, 51, 52, 53, 54] (by decide +kernel) (by decide +kernel)
set_option maxRecDepth 20000 in
theorem gX2_lend_X0_startLoan : GoodIn wsX2_lend (wsV RX2 150 RX0 yX0_startLoan wsX0_startLoan) := goodIn_app (goodIn_of _ (by decide +kernel)) ggX2_lend_X0_startLoan
theorem dX2_lend_0 : decode cX2_lend 0 = .ok (.aload_n 0, 1) := by decide +kernel
theorem dX2_lend_1 : decode cX2_lend 1 = .ok (.iload_n 1, 1) := by decide +kernel
theorem dX2_lend_2 : decode cX2_lend 2 = .ok (.invokevirtual 136, 3) := by decide +kernel
theorem dX2_lend_5 : decode cX2_lend 5 = .ok (.aload_n 0, 1) := by decide +kernel
theorem dX2_lend_6 : decode cX2_lend 6 = .ok (.iload_n 2, 1) := by decide +kernel
theorem dX2_lend_7 : decode cX2_lend 7 = .ok (.invokevirtual 139, 3) := by decide +kernel
theorem dX2_lend_10 : decode cX2_lend 10 = .ok (.aload_n 0, 1) := by decide +kernel
theorem dX2_lend_11 : decode cX2_lend 11 = .ok (.iload_n 3, 1) := by decide +kernel
theorem dX2_lend_12 : decode cX2_lend 12 = .ok (.invokevirtual 142, 3) := by decide +kernel
theorem dX2_lend_15 : decode cX2_lend 15 = .ok (.aload_n 0, 1) := by decide +kernel
theorem dX2_lend_16 : decode cX2_lend 16 = .ok (.getfield 23, 3) := by decide +kernel
theorem dX2_lend_19 : decode cX2_lend 19 = .ok (.iload_n 1, 1) := by decide +kernel
theorem dX2_lend_20 : decode cX2_lend 20 = .ok (.invokevirtual 145, 3) := by decide +kernel
theorem dX2_lend_23 : decode cX2_lend 23 = .ok (.ifCond .ne 13, 3) := by decide +kernel
theorem dX2_lend_26 : decode cX2_lend 26 = .ok (.new 44, 3) := by decide +kernel
theorem dX2_lend_29 : decode cX2_lend 29 = .ok (.dup, 1) := by decide +kernel
theorem dX2_lend_30 : decode cX2_lend 30 = .ok (.ldc 148, 2) := by decide +kernel
theorem dX2_lend_32 : decode cX2_lend 32 = .ok (.invokespecial 48, 3) := by decide +kernel
theorem dX2_lend_35 : decode cX2_lend 35 = .ok (.athrow, 1) := by decide +kernel
theorem dX2_lend_36 : decode cX2_lend 36 = .ok (.aload_n 0, 1) := by decide +kernel
theorem dX2_lend_37 : decode cX2_lend 37 = .ok (.getfield 7, 3) := by decide +kernel
theorem dX2_lend_40 : decode cX2_lend 40 = .ok (.iload_n 3, 1) := by decide +kernel
theorem dX2_lend_41 : decode cX2_lend 41 = .ok (.iadd, 1) := by decide +kernel
theorem dX2_lend_42 : decode cX2_lend 42 = .ok (.istore 4, 2) := by decide +kernel
theorem dX2_lend_44 : decode cX2_lend 44 = .ok (.aload_n 0, 1) := by decide +kernel
theorem dX2_lend_45 : decode cX2_lend 45 = .ok (.getfield 23, 3) := by decide +kernel
theorem dX2_lend_48 : decode cX2_lend 48 = .ok (.iload_n 1, 1) := by decide +kernel
theorem dX2_lend_49 : decode cX2_lend 49 = .ok (.iload_n 2, 1) := by decide +kernel
theorem dX2_lend_50 : decode cX2_lend 50 = .ok (.aload_n 0, 1) := by decide +kernel
theorem dX2_lend_51 : decode cX2_lend 51 = .ok (.getfield 7, 3) := by decide +kernel
theorem dX2_lend_54 : decode cX2_lend 54 = .ok (.iload 4, 2) := by decide +kernel
theorem dX2_lend_56 : decode cX2_lend 56 = .ok (.invokevirtual 150, 3) := by decide +kernel
theorem dX2_lend_59 : decode cX2_lend 59 = .ok (.iload 4, 2) := by decide +kernel
theorem dX2_lend_61 : decode cX2_lend 61 = .ok (.ireturn, 1) := by decide +kernel
set_option maxRecDepth 20000 in
theorem ggX2_giveBack_X2_needCopy : GoodIn wsX2_giveBack wsX2_needCopy := goodIn_ca (goodIn_r _ [14, 15, 16, 3, 17, 35, 36, 37, 38, 39, 40, 41, 42, 43, 44, 45, 46, 47] (by decide +kernel) (by decide +kernel)) (goodIn_sub (fun _ h => List.mem_cons_of_mem _ (List.mem_append_right _ h)) (by decide +kernel))
set_option maxRecDepth 20000 in
theorem gX2_giveBack_X2_needCopy : GoodIn wsX2_giveBack (wsV RX2 136 RX2 yX2_needCopy wsX2_needCopy) := goodIn_app (goodIn_of _ (by decide +kernel)) ggX2_giveBack_X2_needCopy
set_option maxRecDepth 20000 in
theorem ggX2_giveBack_X0_dueOf : GoodIn wsX2_giveBack wsX0_dueOf := goodIn_r _ [22, 23, 24, 25, 26, 27, 21, 28, 29, 40, 41, 42, 43, 44, 45, 46, 47] (by decide +kernel) (by decide +kernel)
set_option maxRecDepth 20000 in
theorem gX2_giveBack_X0_dueOf : GoodIn wsX2_giveBack (wsV RX2 159 RX0 yX0_dueOf wsX0_dueOf) := goodIn_app (goodIn_of _ (by decide +kernel)) ggX2_giveBack_X0_dueOf
set_option maxRecDepth 20000 in
theorem ggX2_giveBack_X0_move : GoodIn wsX2_giveBack wsX0_move := goodIn_r _ [33, 23, 34, 25, 26, 27, 21, 28, 29, 40, 41, 42, 43, 44, 45, 46, 47] (by decide +kernel) (by decide +kernel)
set_option maxRecDepth 20000 in
theorem gX2_giveBack_X0_move : GoodIn wsX2_giveBack (wsV RX2 167 RX0 yX0_move wsX0_move) := goodIn_app (goodIn_of _ (by decide +kernel)) ggX2_giveBack_X0_move
theorem dX2_giveBack_0 : decode cX2_giveBack 0 = .ok (.aload_n 0, 1) := by decide +kernel
theorem dX2_giveBack_1 : decode cX2_giveBack 1 = .ok (.iload_n 1, 1) := by decide +kernel
theorem dX2_giveBack_2 : decode cX2_giveBack 2 = .ok (.invokevirtual 136, 3) := by decide +kernel
theorem dX2_giveBack_5 : decode cX2_giveBack 5 = .ok (.aload_n 0, 1) := by decide +kernel
theorem dX2_giveBack_6 : decode cX2_giveBack 6 = .ok (.getfield 23, 3) := by decide +kernel
theorem dX2_giveBack_9 : decode cX2_giveBack 9 = .ok (.getfield 154, 3) := by decide +kernel
theorem dX2_giveBack_12 : decode cX2_giveBack 12 = .ok (.iload_n 1, 1) := by decide +kernel
theorem dX2_giveBack_13 : decode cX2_giveBack 13 = .ok (.iaload, 1) := by decide +kernel
theorem dX2_giveBack_14 : decode cX2_giveBack 14 = .ok (.iconst 1, 1) := by decide +kernel
theorem dX2_giveBack_15 : decode cX2_giveBack 15 = .ok (.if_icmp .eq 13, 3) := by decide +kernel
theorem dX2_giveBack_18 : decode cX2_giveBack 18 = .ok (.new 44, 3) := by decide +kernel
theorem dX2_giveBack_21 : decode cX2_giveBack 21 = .ok (.dup, 1) := by decide +kernel
theorem dX2_giveBack_22 : decode cX2_giveBack 22 = .ok (.ldc 157, 2) := by decide +kernel
theorem dX2_giveBack_24 : decode cX2_giveBack 24 = .ok (.invokespecial 48, 3) := by decide +kernel
theorem dX2_giveBack_27 : decode cX2_giveBack 27 = .ok (.athrow, 1) := by decide +kernel
theorem dX2_giveBack_28 : decode cX2_giveBack 28 = .ok (.iconst 0, 1) := by decide +kernel
theorem dX2_giveBack_29 : decode cX2_giveBack 29 = .ok (.aload_n 0, 1) := by decide +kernel
theorem dX2_giveBack_30 : decode cX2_giveBack 30 = .ok (.getfield 7, 3) := by decide +kernel
theorem dX2_giveBack_33 : decode cX2_giveBack 33 = .ok (.aload_n 0, 1) := by decide +kernel
theorem dX2_giveBack_34 : decode cX2_giveBack 34 = .ok (.getfield 23, 3) := by decide +kernel
theorem dX2_giveBack_37 : decode cX2_giveBack 37 = .ok (.iload_n 1, 1) := by decide +kernel
theorem dX2_giveBack_38 : decode cX2_giveBack 38 = .ok (.invokevirtual 159, 3) := by decide +kernel
theorem dX2_giveBack_41 : decode cX2_giveBack 41 = .ok (.isub, 1) := by decide +kernel
theorem dX2_giveBack_42 : decode cX2_giveBack 42 = .ok (.invokestatic 162, 3) := by decide +kernel
theorem dX2_giveBack_45 : decode cX2_giveBack 45 = .ok (.istore_n 2, 1) := by decide +kernel
theorem dX2_giveBack_46 : decode cX2_giveBack 46 = .ok (.aload_n 0, 1) := by decide +kernel
theorem dX2_giveBack_47 : decode cX2_giveBack 47 = .ok (.getfield 23, 3) := by decide +kernel
theorem dX2_giveBack_50 : decode cX2_giveBack 50 = .ok (.iload_n 1, 1) := by decide +kernel
theorem dX2_giveBack_51 : decode cX2_giveBack 51 = .ok (.iconst 0, 1) := by decide +kernel
theorem dX2_giveBack_52 : decode cX2_giveBack 52 = .ok (.aload_n 0, 1) := by decide +kernel
theorem dX2_giveBack_53 : decode cX2_giveBack 53 = .ok (.getfield 7, 3) := by decide +kernel
theorem dX2_giveBack_56 : decode cX2_giveBack 56 = .ok (.invokevirtual 167, 3) := by decide +kernel
theorem dX2_giveBack_59 : decode cX2_giveBack 59 = .ok (.iload_n 2, 1) := by decide +kernel
theorem dX2_giveBack_60 : decode cX2_giveBack 60 = .ok (.ireturn, 1) := by decide +kernel
set_option maxRecDepth 20000 in
theorem ggX2_lose_X2_needCopy : GoodIn wsX2_lose wsX2_needCopy := goodIn_ca (goodIn_r _ [12, 13, 14, 3, 15, 42, 43, 44, 45, 46, 47, 48, 49, 50, 51, 52, 53, 54] (by decide +kernel) (by decide +kernel)) (goodIn_sub (fun _ h => List.mem_cons_of_mem _ (List.mem_append_right _ h)) (by decide +kernel))
set_option maxRecDepth 20000 in
theorem gX2_lose_X2_needCopy : GoodIn wsX2_lose (wsV RX2 136 RX2 yX2_needCopy wsX2_needCopy) := goodIn_app (goodIn_of _ (by decide +kernel)) ggX2_lose_X2_needCopy
set_option maxRecDepth 20000 in
theorem ggX2_lose_X0_move : GoodIn wsX2_lose wsX0_move := goodIn_r _ [20, 21, 22, 23, 24, 25, 19, 26, 27, 47, 48, 49, 50, 51, 52, 53, 54] (by decide +kernel) (by decide +kernel)
set_option maxRecDepth 20000 in
theorem gX2_lose_X0_move : GoodIn wsX2_lose (wsV RX2 167 RX0 yX0_move wsX0_move) := goodIn_app (goodIn_of _ (by decide +kernel)) ggX2_lose_X0_move
set_option maxRecDepth 20000 in
theorem ggX2_lose_X1_doorsOf : GoodIn wsX2_lose wsX1_doorsOf := goodIn_r _ [32, 33, 34, 35, 36, 31, 37, 38, 39, 40, 11, 41, 55, 56, 57, 58, 59, 60, 61, 62] (by decide +kernel) (by decide +kernel)
set_option maxRecDepth 20000 in
theorem gX2_lose_X1_doorsOf : GoodIn wsX2_lose (wsV RX2 103 RX1 yX1_doorsOf wsX1_doorsOf) := goodIn_app (goodIn_of _ (by decide +kernel)) ggX2_lose_X1_doorsOf
theorem dX2_lose_0 : decode cX2_lose 0 = .ok (.aload_n 0, 1) := by decide +kernel
theorem dX2_lose_1 : decode cX2_lose 1 = .ok (.iload_n 1, 1) := by decide +kernel
theorem dX2_lose_2 : decode cX2_lose 2 = .ok (.invokevirtual 136, 3) := by decide +kernel
theorem dX2_lose_5 : decode cX2_lose 5 = .ok (.aload_n 0, 1) := by decide +kernel
theorem dX2_lose_6 : decode cX2_lose 6 = .ok (.getfield 23, 3) := by decide +kernel
theorem dX2_lose_9 : decode cX2_lose 9 = .ok (.getfield 154, 3) := by decide +kernel
theorem dX2_lose_12 : decode cX2_lose 12 = .ok (.iload_n 1, 1) := by decide +kernel
theorem dX2_lose_13 : decode cX2_lose 13 = .ok (.iaload, 1) := by decide +kernel
theorem dX2_lose_14 : decode cX2_lose 14 = .ok (.istore_n 2, 1) := by decide +kernel
theorem dX2_lose_15 : decode cX2_lose 15 = .ok (.iload_n 2, 1) := by decide +kernel
theorem dX2_lose_16 : decode cX2_lose 16 = .ok (.iconst 2, 1) := by decide +kernel
theorem dX2_lose_17 : decode cX2_lose 17 = .ok (.if_icmp .eq 8, 3) := by decide +kernel
theorem dX2_lose_20 : decode cX2_lose 20 = .ok (.iload_n 2, 1) := by decide +kernel
theorem dX2_lose_21 : decode cX2_lose 21 = .ok (.iconst 3, 1) := by decide +kernel
theorem dX2_lose_22 : decode cX2_lose 22 = .ok (.if_icmp .ne 13, 3) := by decide +kernel
theorem dX2_lose_25 : decode cX2_lose 25 = .ok (.new 44, 3) := by decide +kernel
theorem dX2_lose_28 : decode cX2_lose 28 = .ok (.dup, 1) := by decide +kernel
theorem dX2_lose_29 : decode cX2_lose 29 = .ok (.ldc 171, 2) := by decide +kernel
theorem dX2_lose_31 : decode cX2_lose 31 = .ok (.invokespecial 48, 3) := by decide +kernel
theorem dX2_lose_34 : decode cX2_lose 34 = .ok (.athrow, 1) := by decide +kernel
theorem dX2_lose_35 : decode cX2_lose 35 = .ok (.aload_n 0, 1) := by decide +kernel
theorem dX2_lose_36 : decode cX2_lose 36 = .ok (.getfield 23, 3) := by decide +kernel
theorem dX2_lose_39 : decode cX2_lose 39 = .ok (.iload_n 1, 1) := by decide +kernel
theorem dX2_lose_40 : decode cX2_lose 40 = .ok (.iconst 2, 1) := by decide +kernel
theorem dX2_lose_41 : decode cX2_lose 41 = .ok (.aload_n 0, 1) := by decide +kernel
theorem dX2_lose_42 : decode cX2_lose 42 = .ok (.getfield 7, 3) := by decide +kernel
theorem dX2_lose_45 : decode cX2_lose 45 = .ok (.invokevirtual 167, 3) := by decide +kernel
theorem dX2_lose_48 : decode cX2_lose 48 = .ok (.aload_n 0, 1) := by decide +kernel
theorem dX2_lose_49 : decode cX2_lose 49 = .ok (.getfield 16, 3) := by decide +kernel
theorem dX2_lose_52 : decode cX2_lose 52 = .ok (.aload_n 0, 1) := by decide +kernel
theorem dX2_lose_53 : decode cX2_lose 53 = .ok (.getfield 23, 3) := by decide +kernel
theorem dX2_lose_56 : decode cX2_lose 56 = .ok (.getfield 173, 3) := by decide +kernel
theorem dX2_lose_59 : decode cX2_lose 59 = .ok (.iload_n 1, 1) := by decide +kernel
theorem dX2_lose_60 : decode cX2_lose 60 = .ok (.iaload, 1) := by decide +kernel
theorem dX2_lose_61 : decode cX2_lose 61 = .ok (.invokevirtual 103, 3) := by decide +kernel
theorem dX2_lose_64 : decode cX2_lose 64 = .ok (.ireturn, 1) := by decide +kernel
set_option maxRecDepth 20000 in
theorem ggX2_find_X2_needCopy : GoodIn wsX2_find wsX2_needCopy := goodIn_ca (goodIn_r _ [10, 11, 12, 3, 13, 56, 57, 58, 59, 60, 61, 62, 63, 64, 65, 66, 67, 68] (by decide +kernel) (by decide +kernel)) (goodIn_sub (fun _ h => List.mem_cons_of_mem _ (List.mem_append_right _ h)) (by decide +kernel))
set_option maxRecDepth 20000 in
theorem gX2_find_X2_needCopy : GoodIn wsX2_find (wsV RX2 136 RX2 yX2_needCopy wsX2_needCopy) := goodIn_app (goodIn_of _ (by decide +kernel)) ggX2_find_X2_needCopy
set_option maxRecDepth 20000 in
theorem ggX2_find_X0_move : GoodIn wsX2_find wsX0_move := goodIn_r _ [18, 19, 20, 21, 22, 23, 17, 24, 25, 61, 62, 63, 64, 65, 66, 67, 68] (by decide +kernel) (by decide +kernel)
set_option maxRecDepth 20000 in
theorem gX2_find_X0_move : GoodIn wsX2_find (wsV RX2 167 RX0 yX0_move wsX0_move) := goodIn_app (goodIn_of _ (by decide +kernel)) ggX2_find_X0_move
set_option maxRecDepth 20000 in
theorem ggX2_find_X2_doorsAtRisk : GoodIn wsX2_find wsX2_doorsAtRisk := goodIn_r _ [29, 30, 3, 31, 32, 33, 17, 34, 35, 19, 36, 37, 38, 39, 40, 41, 42, 43, 44, 45, 46, 47, 48, 49, 50, 51, 52, 53, 54, 9, 55, 56, 57, 58, 59, 60, 61, 62, 63, 64, 65, 66, 67, 68, 69, 70, 71, 72, 73, 74, 75, 76] (by decide +kernel) (by decide +kernel)
set_option maxRecDepth 20000 in
theorem gX2_find_X2_doorsAtRisk : GoodIn wsX2_find (wsV RX2 178 RX2 yX2_doorsAtRisk wsX2_doorsAtRisk) := goodIn_app (goodIn_of _ (by decide +kernel)) ggX2_find_X2_doorsAtRisk
theorem dX2_find_0 : decode cX2_find 0 = .ok (.aload_n 0, 1) := by decide +kernel
theorem dX2_find_1 : decode cX2_find 1 = .ok (.iload_n 1, 1) := by decide +kernel
theorem dX2_find_2 : decode cX2_find 2 = .ok (.invokevirtual 136, 3) := by decide +kernel
theorem dX2_find_5 : decode cX2_find 5 = .ok (.aload_n 0, 1) := by decide +kernel
theorem dX2_find_6 : decode cX2_find 6 = .ok (.getfield 23, 3) := by decide +kernel
theorem dX2_find_9 : decode cX2_find 9 = .ok (.getfield 154, 3) := by decide +kernel
theorem dX2_find_12 : decode cX2_find 12 = .ok (.iload_n 1, 1) := by decide +kernel
theorem dX2_find_13 : decode cX2_find 13 = .ok (.iaload, 1) := by decide +kernel
theorem dX2_find_14 : decode cX2_find 14 = .ok (.iconst 2, 1) := by decide +kernel
theorem dX2_find_15 : decode cX2_find 15 = .ok (.if_icmp .eq 13, 3) := by decide +kernel
theorem dX2_find_18 : decode cX2_find 18 = .ok (.new 44, 3) := by decide +kernel
theorem dX2_find_21 : decode cX2_find 21 = .ok (.dup, 1) := by decide +kernel
theorem dX2_find_22 : decode cX2_find 22 = .ok (.ldc 176, 2) := by decide +kernel
theorem dX2_find_24 : decode cX2_find 24 = .ok (.invokespecial 48, 3) := by decide +kernel
theorem dX2_find_27 : decode cX2_find 27 = .ok (.athrow, 1) := by decide +kernel
theorem dX2_find_28 : decode cX2_find 28 = .ok (.aload_n 0, 1) := by decide +kernel
theorem dX2_find_29 : decode cX2_find 29 = .ok (.getfield 23, 3) := by decide +kernel
theorem dX2_find_32 : decode cX2_find 32 = .ok (.iload_n 1, 1) := by decide +kernel
theorem dX2_find_33 : decode cX2_find 33 = .ok (.iconst 0, 1) := by decide +kernel
theorem dX2_find_34 : decode cX2_find 34 = .ok (.aload_n 0, 1) := by decide +kernel
theorem dX2_find_35 : decode cX2_find 35 = .ok (.getfield 7, 3) := by decide +kernel
theorem dX2_find_38 : decode cX2_find 38 = .ok (.invokevirtual 167, 3) := by decide +kernel
theorem dX2_find_41 : decode cX2_find 41 = .ok (.aload_n 0, 1) := by decide +kernel
theorem dX2_find_42 : decode cX2_find 42 = .ok (.invokevirtual 178, 3) := by decide +kernel
theorem dX2_find_45 : decode cX2_find 45 = .ok (.ireturn, 1) := by decide +kernel
set_option maxRecDepth 20000 in
theorem ggX2_pass_X2_needDays : GoodIn wsX2_pass wsX2_needDays := goodIn_ca (goodIn_r _ [8, 9, 10] (by decide +kernel) (by decide +kernel)) (goodIn_sub (fun _ h => List.mem_cons_of_mem _ (List.mem_append_right _ h)) (by decide +kernel))
set_option maxRecDepth 20000 in
theorem gX2_pass_X2_needDays : GoodIn wsX2_pass (wsV RX2 142 RX2 yX2_needDays wsX2_needDays) := goodIn_app (goodIn_of _ (by decide +kernel)) ggX2_pass_X2_needDays
theorem dX2_pass_0 : decode cX2_pass 0 = .ok (.aload_n 0, 1) := by decide +kernel
theorem dX2_pass_1 : decode cX2_pass 1 = .ok (.iload_n 1, 1) := by decide +kernel
theorem dX2_pass_2 : decode cX2_pass 2 = .ok (.invokevirtual 142, 3) := by decide +kernel
theorem dX2_pass_5 : decode cX2_pass 5 = .ok (.aload_n 0, 1) := by decide +kernel
theorem dX2_pass_6 : decode cX2_pass 6 = .ok (.getfield 7, 3) := by decide +kernel
theorem dX2_pass_9 : decode cX2_pass 9 = .ok (.iload_n 1, 1) := by decide +kernel
theorem dX2_pass_10 : decode cX2_pass 10 = .ok (.iadd, 1) := by decide +kernel
theorem dX2_pass_11 : decode cX2_pass 11 = .ok (.sipush 9999, 3) := by decide +kernel
theorem dX2_pass_14 : decode cX2_pass 14 = .ok (.if_icmp .le 13, 3) := by decide +kernel
theorem dX2_pass_17 : decode cX2_pass 17 = .ok (.new 44, 3) := by decide +kernel
theorem dX2_pass_20 : decode cX2_pass 20 = .ok (.dup, 1) := by decide +kernel
theorem dX2_pass_21 : decode cX2_pass 21 = .ok (.ldc 181, 2) := by decide +kernel
theorem dX2_pass_23 : decode cX2_pass 23 = .ok (.invokespecial 48, 3) := by decide +kernel
theorem dX2_pass_26 : decode cX2_pass 26 = .ok (.athrow, 1) := by decide +kernel
theorem dX2_pass_27 : decode cX2_pass 27 = .ok (.aload_n 0, 1) := by decide +kernel
theorem dX2_pass_28 : decode cX2_pass 28 = .ok (.dup, 1) := by decide +kernel
theorem dX2_pass_29 : decode cX2_pass 29 = .ok (.getfield 7, 3) := by decide +kernel
theorem dX2_pass_32 : decode cX2_pass 32 = .ok (.iload_n 1, 1) := by decide +kernel
theorem dX2_pass_33 : decode cX2_pass 33 = .ok (.iadd, 1) := by decide +kernel
theorem dX2_pass_34 : decode cX2_pass 34 = .ok (.putfield 7, 3) := by decide +kernel
theorem dX2_pass_37 : decode cX2_pass 37 = .ok (.aload_n 0, 1) := by decide +kernel
theorem dX2_pass_38 : decode cX2_pass 38 = .ok (.getfield 7, 3) := by decide +kernel
theorem dX2_pass_41 : decode cX2_pass 41 = .ok (.ireturn, 1) := by decide +kernel
theorem dX2_today_0 : decode cX2_today 0 = .ok (.aload_n 0, 1) := by decide +kernel
theorem dX2_today_1 : decode cX2_today 1 = .ok (.getfield 7, 3) := by decide +kernel
theorem dX2_today_4 : decode cX2_today 4 = .ok (.ireturn, 1) := by decide +kernel
theorem dX2_copyCount_0 : decode cX2_copyCount 0 = .ok (.aload_n 0, 1) := by decide +kernel
theorem dX2_copyCount_1 : decode cX2_copyCount 1 = .ok (.getfield 23, 3) := by decide +kernel
theorem dX2_copyCount_4 : decode cX2_copyCount 4 = .ok (.getfield 128, 3) := by decide +kernel
theorem dX2_copyCount_7 : decode cX2_copyCount 7 = .ok (.ireturn, 1) := by decide +kernel
set_option maxRecDepth 20000 in
theorem ggX2_copy_X2_needCopy : GoodIn wsX2_copy wsX2_needCopy := goodIn_ca (goodIn_r _ [11, 1, 2, 3, 12, 30, 31, 32, 33, 34, 35, 36, 37, 38, 39, 40, 41, 42] (by decide +kernel) (by decide +kernel)) (goodIn_sub (fun _ h => List.mem_cons_of_mem _ (List.mem_append_right _ h)) (by decide +kernel))
set_option maxRecDepth 20000 in
theorem gX2_copy_X2_needCopy : GoodIn wsX2_copy (wsV RX2 136 RX2 yX2_needCopy wsX2_needCopy) := goodIn_app (goodIn_of _ (by decide +kernel)) ggX2_copy_X2_needCopy
set_option maxRecDepth 20000 in
theorem ggX2_copy_X0_holderOf : GoodIn wsX2_copy wsX0_holderOf := goodIn_r _ [17, 18, 19, 20, 21, 22, 16, 23, 24, 35, 36, 37, 38, 39, 40, 41, 42] (by decide +kernel) (by decide +kernel)
set_option maxRecDepth 20000 in
theorem gX2_copy_X0_holderOf : GoodIn wsX2_copy (wsV RX2 183 RX0 yX0_holderOf wsX0_holderOf) := goodIn_app (goodIn_of _ (by decide +kernel)) ggX2_copy_X0_holderOf
set_option maxRecDepth 20000 in
theorem ggX2_copy_X0_dueOf : GoodIn wsX2_copy wsX0_dueOf := goodIn_r _ [28, 18, 29, 20, 21, 22, 16, 23, 24, 35, 36, 37, 38, 39, 40, 41, 42] (by decide +kernel) (by decide +kernel)
set_option maxRecDepth 20000 in
theorem gX2_copy_X0_dueOf : GoodIn wsX2_copy (wsV RX2 159 RX0 yX0_dueOf wsX0_dueOf) := goodIn_app (goodIn_of _ (by decide +kernel)) ggX2_copy_X0_dueOf
theorem dX2_copy_0 : decode cX2_copy 0 = .ok (.aload_n 0, 1) := by decide +kernel
theorem dX2_copy_1 : decode cX2_copy 1 = .ok (.iload_n 1, 1) := by decide +kernel
theorem dX2_copy_2 : decode cX2_copy 2 = .ok (.invokevirtual 136, 3) := by decide +kernel
theorem dX2_copy_5 : decode cX2_copy 5 = .ok (.iload_n 2, 1) := by decide +kernel
theorem dX2_copy_6 : decode cX2_copy 6 = .ok (.tableswitch 82 0 4 #[34, 44, 54, 63, 72], 34) := by decide +kernel
theorem dX2_copy_40 : decode cX2_copy 40 = .ok (.aload_n 0, 1) := by decide +kernel
theorem dX2_copy_41 : decode cX2_copy 41 = .ok (.getfield 23, 3) := by decide +kernel
theorem dX2_copy_44 : decode cX2_copy 44 = .ok (.getfield 173, 3) := by decide +kernel
theorem dX2_copy_47 : decode cX2_copy 47 = .ok (.iload_n 1, 1) := by decide +kernel
theorem dX2_copy_48 : decode cX2_copy 48 = .ok (.iaload, 1) := by decide +kernel
theorem dX2_copy_49 : decode cX2_copy 49 = .ok (.ireturn, 1) := by decide +kernel
theorem dX2_copy_50 : decode cX2_copy 50 = .ok (.aload_n 0, 1) := by decide +kernel
theorem dX2_copy_51 : decode cX2_copy 51 = .ok (.getfield 23, 3) := by decide +kernel
theorem dX2_copy_54 : decode cX2_copy 54 = .ok (.getfield 154, 3) := by decide +kernel
theorem dX2_copy_57 : decode cX2_copy 57 = .ok (.iload_n 1, 1) := by decide +kernel
theorem dX2_copy_58 : decode cX2_copy 58 = .ok (.iaload, 1) := by decide +kernel
theorem dX2_copy_59 : decode cX2_copy 59 = .ok (.ireturn, 1) := by decide +kernel
theorem dX2_copy_60 : decode cX2_copy 60 = .ok (.aload_n 0, 1) := by decide +kernel
theorem dX2_copy_61 : decode cX2_copy 61 = .ok (.getfield 23, 3) := by decide +kernel
theorem dX2_copy_64 : decode cX2_copy 64 = .ok (.iload_n 1, 1) := by decide +kernel
theorem dX2_copy_65 : decode cX2_copy 65 = .ok (.invokevirtual 183, 3) := by decide +kernel
theorem dX2_copy_68 : decode cX2_copy 68 = .ok (.ireturn, 1) := by decide +kernel
theorem dX2_copy_69 : decode cX2_copy 69 = .ok (.aload_n 0, 1) := by decide +kernel
theorem dX2_copy_70 : decode cX2_copy 70 = .ok (.getfield 23, 3) := by decide +kernel
theorem dX2_copy_73 : decode cX2_copy 73 = .ok (.iload_n 1, 1) := by decide +kernel
theorem dX2_copy_74 : decode cX2_copy 74 = .ok (.invokevirtual 159, 3) := by decide +kernel
theorem dX2_copy_77 : decode cX2_copy 77 = .ok (.ireturn, 1) := by decide +kernel
theorem dX2_copy_78 : decode cX2_copy 78 = .ok (.aload_n 0, 1) := by decide +kernel
theorem dX2_copy_79 : decode cX2_copy 79 = .ok (.getfield 23, 3) := by decide +kernel
theorem dX2_copy_82 : decode cX2_copy 82 = .ok (.getfield 186, 3) := by decide +kernel
theorem dX2_copy_85 : decode cX2_copy 85 = .ok (.iload_n 1, 1) := by decide +kernel
theorem dX2_copy_86 : decode cX2_copy 86 = .ok (.iaload, 1) := by decide +kernel
theorem dX2_copy_87 : decode cX2_copy 87 = .ok (.ireturn, 1) := by decide +kernel
theorem dX2_copy_88 : decode cX2_copy 88 = .ok (.new 87, 3) := by decide +kernel
theorem dX2_copy_91 : decode cX2_copy 91 = .ok (.dup, 1) := by decide +kernel
theorem dX2_copy_92 : decode cX2_copy 92 = .ok (.ldc 189, 2) := by decide +kernel
theorem dX2_copy_94 : decode cX2_copy 94 = .ok (.invokespecial 91, 3) := by decide +kernel
theorem dX2_copy_97 : decode cX2_copy 97 = .ok (.athrow, 1) := by decide +kernel
set_option maxRecDepth 20000 in
theorem ggX2_overdue_X0_copiesDueBefore : GoodIn wsX2_overdue wsX0_copiesDueBefore := goodIn_r _ [7, 8, 9, 10, 11, 12, 6, 13, 14, 15, 16, 17, 18, 19, 25, 26, 27, 28, 29, 30, 31, 32] (by decide +kernel) (by decide +kernel)
set_option maxRecDepth 20000 in
theorem gX2_overdue_X0_copiesDueBefore : GoodIn wsX2_overdue (wsV RX2 191 RX0 yX0_copiesDueBefore wsX0_copiesDueBefore) := goodIn_app (goodIn_of _ (by decide +kernel)) ggX2_overdue_X0_copiesDueBefore
theorem dX2_overdue_0 : decode cX2_overdue 0 = .ok (.aload_n 0, 1) := by decide +kernel
theorem dX2_overdue_1 : decode cX2_overdue 1 = .ok (.getfield 23, 3) := by decide +kernel
theorem dX2_overdue_4 : decode cX2_overdue 4 = .ok (.aload_n 0, 1) := by decide +kernel
theorem dX2_overdue_5 : decode cX2_overdue 5 = .ok (.getfield 7, 3) := by decide +kernel
theorem dX2_overdue_8 : decode cX2_overdue 8 = .ok (.invokevirtual 191, 3) := by decide +kernel
theorem dX2_overdue_11 : decode cX2_overdue 11 = .ok (.ireturn, 1) := by decide +kernel
set_option maxRecDepth 20000 in
theorem ggX2_holderAt_X2_needCopy : GoodIn wsX2_holderAt wsX2_needCopy := goodIn_ca (goodIn_r _ [9, 10, 11, 4, 12, 22, 23, 24, 25, 26, 27, 28, 29, 30, 31, 32, 33, 34] (by decide +kernel) (by decide +kernel)) (goodIn_sub (fun _ h => List.mem_cons_of_mem _ (List.mem_append_right _ h)) (by decide +kernel))
set_option maxRecDepth 20000 in
theorem gX2_holderAt_X2_needCopy : GoodIn wsX2_holderAt (wsV RX2 136 RX2 yX2_needCopy wsX2_needCopy) := goodIn_app (goodIn_of _ (by decide +kernel)) ggX2_holderAt_X2_needCopy
set_option maxRecDepth 20000 in
theorem ggX2_holderAt_X0_holderOn : GoodIn wsX2_holderAt wsX0_holderOn := goodIn_r _ [17, 18, 19, 20, 21, 27, 28, 29, 30, 31, 32, 33, 34] (by decide +kernel) (by decide +kernel)
set_option maxRecDepth 20000 in
theorem gX2_holderAt_X0_holderOn : GoodIn wsX2_holderAt (wsV RX2 196 RX0 yX0_holderOn wsX0_holderOn) := goodIn_app (goodIn_of _ (by decide +kernel)) ggX2_holderAt_X0_holderOn
theorem dX2_holderAt_0 : decode cX2_holderAt 0 = .ok (.aload_n 0, 1) := by decide +kernel
theorem dX2_holderAt_1 : decode cX2_holderAt 1 = .ok (.iload_n 1, 1) := by decide +kernel
theorem dX2_holderAt_2 : decode cX2_holderAt 2 = .ok (.invokevirtual 136, 3) := by decide +kernel
theorem dX2_holderAt_5 : decode cX2_holderAt 5 = .ok (.iload_n 2, 1) := by decide +kernel
theorem dX2_holderAt_6 : decode cX2_holderAt 6 = .ok (.ifCond .lt 11, 3) := by decide +kernel
theorem dX2_holderAt_9 : decode cX2_holderAt 9 = .ok (.iload_n 2, 1) := by decide +kernel
theorem dX2_holderAt_10 : decode cX2_holderAt 10 = .ok (.aload_n 0, 1) := by decide +kernel
theorem dX2_holderAt_11 : decode cX2_holderAt 11 = .ok (.getfield 7, 3) := by decide +kernel
theorem dX2_holderAt_14 : decode cX2_holderAt 14 = .ok (.if_icmp .le 13, 3) := by decide +kernel
theorem dX2_holderAt_17 : decode cX2_holderAt 17 = .ok (.new 34, 3) := by decide +kernel
theorem dX2_holderAt_20 : decode cX2_holderAt 20 = .ok (.dup, 1) := by decide +kernel
theorem dX2_holderAt_21 : decode cX2_holderAt 21 = .ok (.ldc 194, 2) := by decide +kernel
theorem dX2_holderAt_23 : decode cX2_holderAt 23 = .ok (.invokespecial 38, 3) := by decide +kernel
theorem dX2_holderAt_26 : decode cX2_holderAt 26 = .ok (.athrow, 1) := by decide +kernel
theorem dX2_holderAt_27 : decode cX2_holderAt 27 = .ok (.aload_n 0, 1) := by decide +kernel
theorem dX2_holderAt_28 : decode cX2_holderAt 28 = .ok (.getfield 23, 3) := by decide +kernel
theorem dX2_holderAt_31 : decode cX2_holderAt 31 = .ok (.iload_n 1, 1) := by decide +kernel
theorem dX2_holderAt_32 : decode cX2_holderAt 32 = .ok (.iload_n 2, 1) := by decide +kernel
theorem dX2_holderAt_33 : decode cX2_holderAt 33 = .ok (.invokevirtual 196, 3) := by decide +kernel
theorem dX2_holderAt_36 : decode cX2_holderAt 36 = .ok (.ireturn, 1) := by decide +kernel
set_option maxRecDepth 20000 in
theorem ggX2_reach_X2_needPerson : GoodIn wsX2_reach wsX2_needPerson := goodIn_ca (goodIn_r _ [5, 6, 7] (by decide +kernel) (by decide +kernel)) (goodIn_sub (fun _ h => List.mem_cons_of_mem _ (List.mem_append_right _ h)) (by decide +kernel))
set_option maxRecDepth 20000 in
theorem gX2_reach_X2_needPerson : GoodIn wsX2_reach (wsV RX2 139 RX2 yX2_needPerson wsX2_needPerson) := goodIn_app (goodIn_of _ (by decide +kernel)) ggX2_reach_X2_needPerson
set_option maxRecDepth 20000 in
theorem ggX2_reach_X2_doorsReached : GoodIn wsX2_reach wsX2_doorsReached := goodIn_r _ [11, 12, 13, 14, 15, 16, 17, 18, 19, 20, 21, 22, 23, 24, 25, 26, 27, 28, 29, 30, 31, 32, 33, 34, 35, 36, 37, 38, 39, 40, 41, 42, 43, 44, 45, 46, 47, 48, 49, 4, 50, 51, 52, 53, 54, 55, 56, 57, 58, 59, 60, 61, 62, 63, 64, 65, 66, 67, 68, 69, 70, 71] (by decide +kernel) (by decide +kernel)
set_option maxRecDepth 20000 in
theorem gX2_reach_X2_doorsReached : GoodIn wsX2_reach (wsV RX2 199 RX2 yX2_doorsReached wsX2_doorsReached) := goodIn_app (goodIn_of _ (by decide +kernel)) ggX2_reach_X2_doorsReached
theorem dX2_reach_0 : decode cX2_reach 0 = .ok (.aload_n 0, 1) := by decide +kernel
theorem dX2_reach_1 : decode cX2_reach 1 = .ok (.iload_n 1, 1) := by decide +kernel
theorem dX2_reach_2 : decode cX2_reach 2 = .ok (.invokevirtual 139, 3) := by decide +kernel
theorem dX2_reach_5 : decode cX2_reach 5 = .ok (.aload_n 0, 1) := by decide +kernel
theorem dX2_reach_6 : decode cX2_reach 6 = .ok (.iload_n 1, 1) := by decide +kernel
theorem dX2_reach_7 : decode cX2_reach 7 = .ok (.invokevirtual 199, 3) := by decide +kernel
theorem dX2_reach_10 : decode cX2_reach 10 = .ok (.ireturn, 1) := by decide +kernel
set_option maxRecDepth 20000 in
theorem ggX2_risk_X2_doorsAtRisk : GoodIn wsX2_risk wsX2_doorsAtRisk := goodIn_r _ [5, 6, 7, 8, 9, 10, 11, 12, 13, 14, 15, 16, 17, 18, 19, 20, 21, 22, 23, 24, 25, 26, 27, 28, 29, 30, 31, 32, 33, 4, 34, 35, 36, 37, 38, 39, 40, 41, 42, 43, 44, 45, 46, 47, 48, 49, 50, 51, 52, 53, 54, 55] (by decide +kernel) (by decide +kernel)
set_option maxRecDepth 20000 in
theorem gX2_risk_X2_doorsAtRisk : GoodIn wsX2_risk (wsV RX2 178 RX2 yX2_doorsAtRisk wsX2_doorsAtRisk) := goodIn_app (goodIn_of _ (by decide +kernel)) ggX2_risk_X2_doorsAtRisk
theorem dX2_risk_0 : decode cX2_risk 0 = .ok (.aload_n 0, 1) := by decide +kernel
theorem dX2_risk_1 : decode cX2_risk 1 = .ok (.invokevirtual 178, 3) := by decide +kernel
theorem dX2_risk_4 : decode cX2_risk 4 = .ok (.ireturn, 1) := by decide +kernel
set_option maxRecDepth 20000 in
theorem ggX2_suggest_X2_needPerson : GoodIn wsX2_suggest wsX2_needPerson := goodIn_ca (goodIn_r _ [13, 14, 15] (by decide +kernel) (by decide +kernel)) (goodIn_sub (fun _ h => List.mem_cons_of_mem _ (List.mem_append_right _ h)) (by decide +kernel))
set_option maxRecDepth 20000 in
theorem gX2_suggest_X2_needPerson : GoodIn wsX2_suggest (wsV RX2 139 RX2 yX2_needPerson wsX2_needPerson) := goodIn_app (goodIn_of _ (by decide +kernel)) ggX2_suggest_X2_needPerson
set_option maxRecDepth 20000 in
theorem ggX2_suggest_X2_isSetOf : GoodIn wsX2_suggest wsX2_isSetOf := goodIn_r _ [18] (by decide +kernel) (by decide +kernel)
set_option maxRecDepth 20000 in
theorem gX2_suggest_X2_isSetOf : GoodIn wsX2_suggest (va_wsS RX2 202 yX2_isSetOf wsX2_isSetOf) := goodIn_app (goodIn_of _ (by decide +kernel)) ggX2_suggest_X2_isSetOf
set_option maxRecDepth 20000 in
theorem ggX2_suggest_X0_firstToLend : GoodIn wsX2_suggest wsX0_firstToLend := goodIn_r _ [23, 24, 25, 26, 27, 28, 22, 29, 30, 31, 102, 103, 104, 105, 106, 107, 108, 109] (by decide +kernel) (by decide +kernel)
set_option maxRecDepth 20000 in
theorem gX2_suggest_X0_firstToLend : GoodIn wsX2_suggest (wsV RX2 207 RX0 yX0_firstToLend wsX0_firstToLend) := goodIn_app (goodIn_of _ (by decide +kernel)) ggX2_suggest_X0_firstToLend
set_option maxRecDepth 20000 in
theorem ggX2_suggest_X1_doorsOf : GoodIn wsX2_suggest wsX1_doorsOf := goodIn_r _ [36, 37, 38, 39, 40, 35, 41, 42, 43, 44, 12, 45, 94, 95, 96, 97, 98, 99, 100, 101] (by decide +kernel) (by decide +kernel)
set_option maxRecDepth 20000 in
theorem gX2_suggest_X1_doorsOf : GoodIn wsX2_suggest (wsV RX2 103 RX1 yX1_doorsOf wsX1_doorsOf) := goodIn_app (goodIn_of _ (by decide +kernel)) ggX2_suggest_X1_doorsOf
set_option maxRecDepth 20000 in
theorem ggX2_suggest_X2_doorsReached : GoodIn wsX2_suggest wsX2_doorsReached := goodIn_r _ [49, 3, 7, 50, 51, 52, 22, 53, 24, 25, 54, 55, 56, 57, 30, 58, 59, 60, 61, 62, 31, 63, 64, 65, 35, 66, 67, 68, 33, 34, 36, 37, 38, 39, 40, 41, 42, 43, 44, 12, 45, 89, 90, 91, 92, 93, 102, 103, 104, 105, 106, 107, 108, 109, 94, 95, 96, 97, 98, 99, 100, 101] (by decide +kernel) (by decide +kernel)
set_option maxRecDepth 20000 in
theorem gX2_suggest_X2_doorsReached : GoodIn wsX2_suggest (wsV RX2 199 RX2 yX2_doorsReached wsX2_doorsReached) := goodIn_app (goodIn_of _ (by decide +kernel)) ggX2_suggest_X2_doorsReached
set_option maxRecDepth 20000 in
theorem ggX2_suggest_X2_bestCopies : GoodIn wsX2_suggest wsX2_bestCopies := goodIn_r _ [72, 3, 5, 73, 74, 75, 12, 76, 8, 77, 44, 45, 78, 79, 80, 81, 6, 82, 83, 84, 85, 86, 87, 88, 89, 90, 91, 92, 93, 94, 95, 96, 97, 98, 99, 100, 101] (by decide +kernel) (by decide +kernel)
set_option maxRecDepth 20000 in
theorem gX2_suggest_X2_bestCopies : GoodIn wsX2_suggest (wsV RX2 210 RX2 yX2_bestCopies wsX2_bestCopies) := goodIn_app (goodIn_of _ (by decide +kernel)) ggX2_suggest_X2_bestCopies
theorem dX2_suggest_0 : decode cX2_suggest 0 = .ok (.aload_n 0, 1) := by decide +kernel
theorem dX2_suggest_1 : decode cX2_suggest 1 = .ok (.iload_n 1, 1) := by decide +kernel
theorem dX2_suggest_2 : decode cX2_suggest 2 = .ok (.invokevirtual 139, 3) := by decide +kernel
theorem dX2_suggest_5 : decode cX2_suggest 5 = .ok (.aload_n 0, 1) := by decide +kernel
theorem dX2_suggest_6 : decode cX2_suggest 6 = .ok (.getfield 16, 3) := by decide +kernel
theorem dX2_suggest_9 : decode cX2_suggest 9 = .ok (.getfield 63, 3) := by decide +kernel
theorem dX2_suggest_12 : decode cX2_suggest 12 = .ok (.iload_n 2, 1) := by decide +kernel
theorem dX2_suggest_13 : decode cX2_suggest 13 = .ok (.invokestatic 202, 3) := by decide +kernel
theorem dX2_suggest_16 : decode cX2_suggest 16 = .ok (.ifCond .ne 13, 3) := by decide +kernel
theorem dX2_suggest_19 : decode cX2_suggest 19 = .ok (.new 34, 3) := by decide +kernel
theorem dX2_suggest_22 : decode cX2_suggest 22 = .ok (.dup, 1) := by decide +kernel
theorem dX2_suggest_23 : decode cX2_suggest 23 = .ok (.ldc 205, 2) := by decide +kernel
theorem dX2_suggest_25 : decode cX2_suggest 25 = .ok (.invokespecial 38, 3) := by decide +kernel
theorem dX2_suggest_28 : decode cX2_suggest 28 = .ok (.athrow, 1) := by decide +kernel
theorem dX2_suggest_29 : decode cX2_suggest 29 = .ok (.iconst 0, 1) := by decide +kernel
theorem dX2_suggest_30 : decode cX2_suggest 30 = .ok (.istore_n 3, 1) := by decide +kernel
theorem dX2_suggest_31 : decode cX2_suggest 31 = .ok (.iload_n 3, 1) := by decide +kernel
theorem dX2_suggest_32 : decode cX2_suggest 32 = .ok (.aload_n 0, 1) := by decide +kernel
theorem dX2_suggest_33 : decode cX2_suggest 33 = .ok (.getfield 16, 3) := by decide +kernel
theorem dX2_suggest_36 : decode cX2_suggest 36 = .ok (.getfield 41, 3) := by decide +kernel
theorem dX2_suggest_39 : decode cX2_suggest 39 = .ok (.if_icmp .ge 37, 3) := by decide +kernel
theorem dX2_suggest_42 : decode cX2_suggest 42 = .ok (.aload_n 0, 1) := by decide +kernel
theorem dX2_suggest_43 : decode cX2_suggest 43 = .ok (.getfield 27, 3) := by decide +kernel
theorem dX2_suggest_46 : decode cX2_suggest 46 = .ok (.iload_n 3, 1) := by decide +kernel
theorem dX2_suggest_47 : decode cX2_suggest 47 = .ok (.aload_n 0, 1) := by decide +kernel
theorem dX2_suggest_48 : decode cX2_suggest 48 = .ok (.getfield 23, 3) := by decide +kernel
theorem dX2_suggest_51 : decode cX2_suggest 51 = .ok (.iload_n 3, 1) := by decide +kernel
theorem dX2_suggest_52 : decode cX2_suggest 52 = .ok (.invokevirtual 207, 3) := by decide +kernel
theorem dX2_suggest_55 : decode cX2_suggest 55 = .ok (.iastore, 1) := by decide +kernel
theorem dX2_suggest_56 : decode cX2_suggest 56 = .ok (.aload_n 0, 1) := by decide +kernel
theorem dX2_suggest_57 : decode cX2_suggest 57 = .ok (.getfield 31, 3) := by decide +kernel
theorem dX2_suggest_60 : decode cX2_suggest 60 = .ok (.iload_n 3, 1) := by decide +kernel
theorem dX2_suggest_61 : decode cX2_suggest 61 = .ok (.aload_n 0, 1) := by decide +kernel
theorem dX2_suggest_62 : decode cX2_suggest 62 = .ok (.getfield 16, 3) := by decide +kernel
theorem dX2_suggest_65 : decode cX2_suggest 65 = .ok (.iload_n 3, 1) := by decide +kernel
theorem dX2_suggest_66 : decode cX2_suggest 66 = .ok (.invokevirtual 103, 3) := by decide +kernel
theorem dX2_suggest_69 : decode cX2_suggest 69 = .ok (.iastore, 1) := by decide +kernel
theorem dX2_suggest_70 : decode cX2_suggest 70 = .ok (.iinc 3 1, 3) := by decide +kernel
theorem dX2_suggest_73 : decode cX2_suggest 73 = .ok (.goto (-42), 3) := by decide +kernel
theorem dX2_suggest_76 : decode cX2_suggest 76 = .ok (.aload_n 0, 1) := by decide +kernel
theorem dX2_suggest_77 : decode cX2_suggest 77 = .ok (.aload_n 0, 1) := by decide +kernel
theorem dX2_suggest_78 : decode cX2_suggest 78 = .ok (.iload_n 1, 1) := by decide +kernel
theorem dX2_suggest_79 : decode cX2_suggest 79 = .ok (.invokevirtual 199, 3) := by decide +kernel
theorem dX2_suggest_82 : decode cX2_suggest 82 = .ok (.iload_n 2, 1) := by decide +kernel
theorem dX2_suggest_83 : decode cX2_suggest 83 = .ok (.invokevirtual 210, 3) := by decide +kernel
theorem dX2_suggest_86 : decode cX2_suggest 86 = .ok (.ireturn, 1) := by decide +kernel
set_option maxRecDepth 20000 in
theorem ggX2_exposure_X2_doorsAtRisk : GoodIn wsX2_exposure wsX2_doorsAtRisk := goodIn_r _ [7, 1, 8, 9, 10, 11, 12, 13, 14, 15, 16, 17, 18, 19, 20, 21, 22, 23, 24, 25, 26, 27, 28, 29, 30, 31, 32, 33, 34, 6, 35, 61, 62, 63, 64, 65, 74, 75, 76, 77, 78, 79, 80, 81, 66, 67, 68, 69, 70, 71, 72, 73] (by decide +kernel) (by decide +kernel)
set_option maxRecDepth 20000 in
theorem gX2_exposure_X2_doorsAtRisk : GoodIn wsX2_exposure (wsV RX2 178 RX2 yX2_doorsAtRisk wsX2_doorsAtRisk) := goodIn_app (goodIn_of _ (by decide +kernel)) ggX2_exposure_X2_doorsAtRisk
set_option maxRecDepth 20000 in
theorem ggX2_exposure_X2_doorsReached : GoodIn wsX2_exposure wsX2_doorsReached := goodIn_r _ [39, 1, 8, 40, 41, 42, 12, 43, 14, 16, 44, 45, 46, 47, 15, 48, 49, 50, 51, 52, 53, 17, 18, 19, 20, 21, 22, 23, 24, 25, 26, 27, 28, 29, 30, 31, 32, 33, 34, 6, 35, 61, 62, 63, 64, 65, 74, 75, 76, 77, 78, 79, 80, 81, 66, 67, 68, 69, 70, 71, 72, 73] (by decide +kernel) (by decide +kernel)
set_option maxRecDepth 20000 in
theorem gX2_exposure_X2_doorsReached : GoodIn wsX2_exposure (wsV RX2 199 RX2 yX2_doorsReached wsX2_doorsReached) := goodIn_app (goodIn_of _ (by decide +kernel)) ggX2_exposure_X2_doorsReached
set_option maxRecDepth 20000 in
theorem ggX2_exposure_J6_bitCount_0f7a4 : GoodIn wsX2_exposure wsJ6_bitCount_0f7a4 := goodIn_r _ [57, 58, 59, 60] (by decide +kernel) (by decide +kernel)
set_option maxRecDepth 20000 in
theorem gX2_exposure_J6_bitCount_0f7a4 : GoodIn wsX2_exposure (va_wsS RX2 213 yJ6_bitCount_0f7a4 wsJ6_bitCount_0f7a4) := goodIn_app (goodIn_of _ (by decide +kernel)) ggX2_exposure_J6_bitCount_0f7a4
theorem dX2_exposure_0 : decode cX2_exposure 0 = .ok (.aload_n 0, 1) := by decide +kernel
theorem dX2_exposure_1 : decode cX2_exposure 1 = .ok (.getfield 16, 3) := by decide +kernel
theorem dX2_exposure_4 : decode cX2_exposure 4 = .ok (.getfield 63, 3) := by decide +kernel
theorem dX2_exposure_7 : decode cX2_exposure 7 = .ok (.ifCond .gt 5, 3) := by decide +kernel
theorem dX2_exposure_10 : decode cX2_exposure 10 = .ok (.dconst 0, 1) := by decide +kernel
theorem dX2_exposure_11 : decode cX2_exposure 11 = .ok (.dreturn, 1) := by decide +kernel
theorem dX2_exposure_12 : decode cX2_exposure 12 = .ok (.aload_n 0, 1) := by decide +kernel
theorem dX2_exposure_13 : decode cX2_exposure 13 = .ok (.invokevirtual 178, 3) := by decide +kernel
theorem dX2_exposure_16 : decode cX2_exposure 16 = .ok (.istore_n 1, 1) := by decide +kernel
theorem dX2_exposure_17 : decode cX2_exposure 17 = .ok (.iconst 0, 1) := by decide +kernel
theorem dX2_exposure_18 : decode cX2_exposure 18 = .ok (.istore_n 2, 1) := by decide +kernel
theorem dX2_exposure_19 : decode cX2_exposure 19 = .ok (.iload_n 2, 1) := by decide +kernel
theorem dX2_exposure_20 : decode cX2_exposure 20 = .ok (.bipush 8, 2) := by decide +kernel
theorem dX2_exposure_22 : decode cX2_exposure 22 = .ok (.if_icmp .ge 17, 3) := by decide +kernel
theorem dX2_exposure_25 : decode cX2_exposure 25 = .ok (.iload_n 1, 1) := by decide +kernel
theorem dX2_exposure_26 : decode cX2_exposure 26 = .ok (.aload_n 0, 1) := by decide +kernel
theorem dX2_exposure_27 : decode cX2_exposure 27 = .ok (.iload_n 2, 1) := by decide +kernel
theorem dX2_exposure_28 : decode cX2_exposure 28 = .ok (.invokevirtual 199, 3) := by decide +kernel
theorem dX2_exposure_31 : decode cX2_exposure 31 = .ok (.ior, 1) := by decide +kernel
theorem dX2_exposure_32 : decode cX2_exposure 32 = .ok (.istore_n 1, 1) := by decide +kernel
theorem dX2_exposure_33 : decode cX2_exposure 33 = .ok (.iinc 2 1, 3) := by decide +kernel
theorem dX2_exposure_36 : decode cX2_exposure 36 = .ok (.goto (-17), 3) := by decide +kernel
theorem dX2_exposure_39 : decode cX2_exposure 39 = .ok (.iload_n 1, 1) := by decide +kernel
theorem dX2_exposure_40 : decode cX2_exposure 40 = .ok (.invokestatic 213, 3) := by decide +kernel
theorem dX2_exposure_43 : decode cX2_exposure 43 = .ok (.i2d, 1) := by decide +kernel
theorem dX2_exposure_44 : decode cX2_exposure 44 = .ok (.aload_n 0, 1) := by decide +kernel
theorem dX2_exposure_45 : decode cX2_exposure 45 = .ok (.getfield 16, 3) := by decide +kernel
theorem dX2_exposure_48 : decode cX2_exposure 48 = .ok (.getfield 63, 3) := by decide +kernel
theorem dX2_exposure_51 : decode cX2_exposure 51 = .ok (.i2d, 1) := by decide +kernel
theorem dX2_exposure_52 : decode cX2_exposure 52 = .ok (.ddiv, 1) := by decide +kernel
theorem dX2_exposure_53 : decode cX2_exposure 53 = .ok (.dreturn, 1) := by decide +kernel
set_option maxRecDepth 20000 in
theorem ggX2_digest_X2_mix : GoodIn wsX2_digest wsX2_mix := goodIn_r _ [13, 14] (by decide +kernel) (by decide +kernel)
set_option maxRecDepth 20000 in
theorem gX2_digest_X2_mix : GoodIn wsX2_digest (va_wsS RX2 220 yX2_mix wsX2_mix) := goodIn_app (goodIn_of _ (by decide +kernel)) ggX2_digest_X2_mix
set_option maxRecDepth 20000 in
theorem ggX2_digest_X2_mixDoor : GoodIn wsX2_digest wsX2_mixDoor := goodIn_r _ [18, 2, 19, 10, 11, 12, 13, 14, 20, 21, 22, 23, 24, 25, 50, 51, 52, 53, 54, 55, 56, 57, 58, 59, 60, 61, 62] (by decide +kernel) (by decide +kernel)
set_option maxRecDepth 20000 in
theorem gX2_digest_X2_mixDoor : GoodIn wsX2_digest (wsV RX2 224 RX2 yX2_mixDoor wsX2_mixDoor) := goodIn_app (goodIn_of _ (by decide +kernel)) ggX2_digest_X2_mixDoor
set_option maxRecDepth 20000 in
theorem ggX2_digest_X2_mixCopy : GoodIn wsX2_digest wsX2_mixCopy := goodIn_r _ [29, 8, 30, 31, 32, 10, 11, 12, 13, 14, 33, 34, 35, 36, 37, 38, 39, 40, 41, 42, 43, 44, 45, 46, 47, 48, 49, 50, 51, 52, 53, 54, 63, 64, 65, 66, 67, 68, 69, 70] (by decide +kernel) (by decide +kernel)
set_option maxRecDepth 20000 in
theorem gX2_digest_X2_mixCopy : GoodIn wsX2_digest (wsV RX2 228 RX2 yX2_mixCopy wsX2_mixCopy) := goodIn_app (goodIn_of _ (by decide +kernel)) ggX2_digest_X2_mixCopy
theorem dX2_digest_0 : decode cX2_digest 0 = .ok (.ldc2_w 218, 3) := by decide +kernel
theorem dX2_digest_3 : decode cX2_digest 3 = .ok (.lstore_n 1, 1) := by decide +kernel
theorem dX2_digest_4 : decode cX2_digest 4 = .ok (.lload_n 1, 1) := by decide +kernel
theorem dX2_digest_5 : decode cX2_digest 5 = .ok (.aload_n 0, 1) := by decide +kernel
theorem dX2_digest_6 : decode cX2_digest 6 = .ok (.getfield 16, 3) := by decide +kernel
theorem dX2_digest_9 : decode cX2_digest 9 = .ok (.getfield 41, 3) := by decide +kernel
theorem dX2_digest_12 : decode cX2_digest 12 = .ok (.i2l, 1) := by decide +kernel
theorem dX2_digest_13 : decode cX2_digest 13 = .ok (.invokestatic 220, 3) := by decide +kernel
theorem dX2_digest_16 : decode cX2_digest 16 = .ok (.lstore_n 1, 1) := by decide +kernel
theorem dX2_digest_17 : decode cX2_digest 17 = .ok (.iconst 0, 1) := by decide +kernel
theorem dX2_digest_18 : decode cX2_digest 18 = .ok (.istore_n 3, 1) := by decide +kernel
theorem dX2_digest_19 : decode cX2_digest 19 = .ok (.iload_n 3, 1) := by decide +kernel
theorem dX2_digest_20 : decode cX2_digest 20 = .ok (.aload_n 0, 1) := by decide +kernel
theorem dX2_digest_21 : decode cX2_digest 21 = .ok (.getfield 16, 3) := by decide +kernel
theorem dX2_digest_24 : decode cX2_digest 24 = .ok (.getfield 41, 3) := by decide +kernel
theorem dX2_digest_27 : decode cX2_digest 27 = .ok (.if_icmp .ge 24, 3) := by decide +kernel
theorem dX2_digest_30 : decode cX2_digest 30 = .ok (.lload_n 1, 1) := by decide +kernel
theorem dX2_digest_31 : decode cX2_digest 31 = .ok (.aload_n 0, 1) := by decide +kernel
theorem dX2_digest_32 : decode cX2_digest 32 = .ok (.getfield 16, 3) := by decide +kernel
theorem dX2_digest_35 : decode cX2_digest 35 = .ok (.getfield 84, 3) := by decide +kernel
theorem dX2_digest_38 : decode cX2_digest 38 = .ok (.iload_n 3, 1) := by decide +kernel
theorem dX2_digest_39 : decode cX2_digest 39 = .ok (.iaload, 1) := by decide +kernel
theorem dX2_digest_40 : decode cX2_digest 40 = .ok (.i2l, 1) := by decide +kernel
theorem dX2_digest_41 : decode cX2_digest 41 = .ok (.invokestatic 220, 3) := by decide +kernel
theorem dX2_digest_44 : decode cX2_digest 44 = .ok (.lstore_n 1, 1) := by decide +kernel
theorem dX2_digest_45 : decode cX2_digest 45 = .ok (.iinc 3 1, 3) := by decide +kernel
theorem dX2_digest_48 : decode cX2_digest 48 = .ok (.goto (-29), 3) := by decide +kernel
theorem dX2_digest_51 : decode cX2_digest 51 = .ok (.lload_n 1, 1) := by decide +kernel
theorem dX2_digest_52 : decode cX2_digest 52 = .ok (.aload_n 0, 1) := by decide +kernel
theorem dX2_digest_53 : decode cX2_digest 53 = .ok (.getfield 16, 3) := by decide +kernel
theorem dX2_digest_56 : decode cX2_digest 56 = .ok (.getfield 63, 3) := by decide +kernel
theorem dX2_digest_59 : decode cX2_digest 59 = .ok (.i2l, 1) := by decide +kernel
theorem dX2_digest_60 : decode cX2_digest 60 = .ok (.invokestatic 220, 3) := by decide +kernel
theorem dX2_digest_63 : decode cX2_digest 63 = .ok (.lstore_n 1, 1) := by decide +kernel
theorem dX2_digest_64 : decode cX2_digest 64 = .ok (.iconst 0, 1) := by decide +kernel
theorem dX2_digest_65 : decode cX2_digest 65 = .ok (.istore_n 3, 1) := by decide +kernel
theorem dX2_digest_66 : decode cX2_digest 66 = .ok (.iload_n 3, 1) := by decide +kernel
theorem dX2_digest_67 : decode cX2_digest 67 = .ok (.aload_n 0, 1) := by decide +kernel
theorem dX2_digest_68 : decode cX2_digest 68 = .ok (.getfield 16, 3) := by decide +kernel
theorem dX2_digest_71 : decode cX2_digest 71 = .ok (.getfield 63, 3) := by decide +kernel
theorem dX2_digest_74 : decode cX2_digest 74 = .ok (.if_icmp .ge 16, 3) := by decide +kernel
theorem dX2_digest_77 : decode cX2_digest 77 = .ok (.aload_n 0, 1) := by decide +kernel
theorem dX2_digest_78 : decode cX2_digest 78 = .ok (.lload_n 1, 1) := by decide +kernel
theorem dX2_digest_79 : decode cX2_digest 79 = .ok (.iload_n 3, 1) := by decide +kernel
theorem dX2_digest_80 : decode cX2_digest 80 = .ok (.invokevirtual 224, 3) := by decide +kernel
theorem dX2_digest_83 : decode cX2_digest 83 = .ok (.lstore_n 1, 1) := by decide +kernel
theorem dX2_digest_84 : decode cX2_digest 84 = .ok (.iinc 3 1, 3) := by decide +kernel
theorem dX2_digest_87 : decode cX2_digest 87 = .ok (.goto (-21), 3) := by decide +kernel
theorem dX2_digest_90 : decode cX2_digest 90 = .ok (.lload_n 1, 1) := by decide +kernel
theorem dX2_digest_91 : decode cX2_digest 91 = .ok (.aload_n 0, 1) := by decide +kernel
theorem dX2_digest_92 : decode cX2_digest 92 = .ok (.getfield 16, 3) := by decide +kernel
theorem dX2_digest_95 : decode cX2_digest 95 = .ok (.getfield 116, 3) := by decide +kernel
theorem dX2_digest_98 : decode cX2_digest 98 = .ok (.i2l, 1) := by decide +kernel
theorem dX2_digest_99 : decode cX2_digest 99 = .ok (.invokestatic 220, 3) := by decide +kernel
theorem dX2_digest_102 : decode cX2_digest 102 = .ok (.lstore_n 1, 1) := by decide +kernel
theorem dX2_digest_103 : decode cX2_digest 103 = .ok (.lload_n 1, 1) := by decide +kernel
theorem dX2_digest_104 : decode cX2_digest 104 = .ok (.aload_n 0, 1) := by decide +kernel
theorem dX2_digest_105 : decode cX2_digest 105 = .ok (.getfield 7, 3) := by decide +kernel
theorem dX2_digest_108 : decode cX2_digest 108 = .ok (.i2l, 1) := by decide +kernel
theorem dX2_digest_109 : decode cX2_digest 109 = .ok (.invokestatic 220, 3) := by decide +kernel
theorem dX2_digest_112 : decode cX2_digest 112 = .ok (.lstore_n 1, 1) := by decide +kernel
theorem dX2_digest_113 : decode cX2_digest 113 = .ok (.lload_n 1, 1) := by decide +kernel
theorem dX2_digest_114 : decode cX2_digest 114 = .ok (.aload_n 0, 1) := by decide +kernel
theorem dX2_digest_115 : decode cX2_digest 115 = .ok (.getfield 23, 3) := by decide +kernel
theorem dX2_digest_118 : decode cX2_digest 118 = .ok (.getfield 128, 3) := by decide +kernel
theorem dX2_digest_121 : decode cX2_digest 121 = .ok (.i2l, 1) := by decide +kernel
theorem dX2_digest_122 : decode cX2_digest 122 = .ok (.invokestatic 220, 3) := by decide +kernel
theorem dX2_digest_125 : decode cX2_digest 125 = .ok (.lstore_n 1, 1) := by decide +kernel
theorem dX2_digest_126 : decode cX2_digest 126 = .ok (.iconst 0, 1) := by decide +kernel
theorem dX2_digest_127 : decode cX2_digest 127 = .ok (.istore_n 3, 1) := by decide +kernel
theorem dX2_digest_128 : decode cX2_digest 128 = .ok (.iload_n 3, 1) := by decide +kernel
theorem dX2_digest_129 : decode cX2_digest 129 = .ok (.aload_n 0, 1) := by decide +kernel
theorem dX2_digest_130 : decode cX2_digest 130 = .ok (.getfield 23, 3) := by decide +kernel
theorem dX2_digest_133 : decode cX2_digest 133 = .ok (.getfield 128, 3) := by decide +kernel
theorem dX2_digest_136 : decode cX2_digest 136 = .ok (.if_icmp .ge 16, 3) := by decide +kernel
theorem dX2_digest_139 : decode cX2_digest 139 = .ok (.aload_n 0, 1) := by decide +kernel
theorem dX2_digest_140 : decode cX2_digest 140 = .ok (.lload_n 1, 1) := by decide +kernel
theorem dX2_digest_141 : decode cX2_digest 141 = .ok (.iload_n 3, 1) := by decide +kernel
theorem dX2_digest_142 : decode cX2_digest 142 = .ok (.invokevirtual 228, 3) := by decide +kernel
theorem dX2_digest_145 : decode cX2_digest 145 = .ok (.lstore_n 1, 1) := by decide +kernel
theorem dX2_digest_146 : decode cX2_digest 146 = .ok (.iinc 3 1, 3) := by decide +kernel
theorem dX2_digest_149 : decode cX2_digest 149 = .ok (.goto (-21), 3) := by decide +kernel
theorem dX2_digest_152 : decode cX2_digest 152 = .ok (.lload_n 1, 1) := by decide +kernel
theorem dX2_digest_153 : decode cX2_digest 153 = .ok (.lreturn, 1) := by decide +kernel
theorem dX2_needKey_0 : decode cX2_needKey 0 = .ok (.iload_n 1, 1) := by decide +kernel
theorem dX2_needKey_1 : decode cX2_needKey 1 = .ok (.ifCond .lt 14, 3) := by decide +kernel
theorem dX2_needKey_4 : decode cX2_needKey 4 = .ok (.iload_n 1, 1) := by decide +kernel
theorem dX2_needKey_5 : decode cX2_needKey 5 = .ok (.aload_n 0, 1) := by decide +kernel
theorem dX2_needKey_6 : decode cX2_needKey 6 = .ok (.getfield 16, 3) := by decide +kernel
theorem dX2_needKey_9 : decode cX2_needKey 9 = .ok (.getfield 41, 3) := by decide +kernel
theorem dX2_needKey_12 : decode cX2_needKey 12 = .ok (.if_icmp .lt 13, 3) := by decide +kernel
theorem dX2_needKey_15 : decode cX2_needKey 15 = .ok (.new 87, 3) := by decide +kernel
theorem dX2_needKey_18 : decode cX2_needKey 18 = .ok (.dup, 1) := by decide +kernel
theorem dX2_needKey_19 : decode cX2_needKey 19 = .ok (.ldc 231, 2) := by decide +kernel
theorem dX2_needKey_21 : decode cX2_needKey 21 = .ok (.invokespecial 91, 3) := by decide +kernel
theorem dX2_needKey_24 : decode cX2_needKey 24 = .ok (.athrow, 1) := by decide +kernel
theorem dX2_needKey_25 : decode cX2_needKey 25 = .ok (.return_, 1) := by decide +kernel
theorem dX2_needDoor_0 : decode cX2_needDoor 0 = .ok (.iload_n 1, 1) := by decide +kernel
theorem dX2_needDoor_1 : decode cX2_needDoor 1 = .ok (.ifCond .lt 14, 3) := by decide +kernel
theorem dX2_needDoor_4 : decode cX2_needDoor 4 = .ok (.iload_n 1, 1) := by decide +kernel
theorem dX2_needDoor_5 : decode cX2_needDoor 5 = .ok (.aload_n 0, 1) := by decide +kernel
theorem dX2_needDoor_6 : decode cX2_needDoor 6 = .ok (.getfield 16, 3) := by decide +kernel
theorem dX2_needDoor_9 : decode cX2_needDoor 9 = .ok (.getfield 63, 3) := by decide +kernel
theorem dX2_needDoor_12 : decode cX2_needDoor 12 = .ok (.if_icmp .lt 13, 3) := by decide +kernel
theorem dX2_needDoor_15 : decode cX2_needDoor 15 = .ok (.new 87, 3) := by decide +kernel
theorem dX2_needDoor_18 : decode cX2_needDoor 18 = .ok (.dup, 1) := by decide +kernel
theorem dX2_needDoor_19 : decode cX2_needDoor 19 = .ok (.ldc 233, 2) := by decide +kernel
theorem dX2_needDoor_21 : decode cX2_needDoor 21 = .ok (.invokespecial 91, 3) := by decide +kernel
theorem dX2_needDoor_24 : decode cX2_needDoor 24 = .ok (.athrow, 1) := by decide +kernel
theorem dX2_needDoor_25 : decode cX2_needDoor 25 = .ok (.return_, 1) := by decide +kernel
theorem dX2_needCopy_0 : decode cX2_needCopy 0 = .ok (.iload_n 1, 1) := by decide +kernel
theorem dX2_needCopy_1 : decode cX2_needCopy 1 = .ok (.ifCond .lt 14, 3) := by decide +kernel
theorem dX2_needCopy_4 : decode cX2_needCopy 4 = .ok (.iload_n 1, 1) := by decide +kernel
theorem dX2_needCopy_5 : decode cX2_needCopy 5 = .ok (.aload_n 0, 1) := by decide +kernel
theorem dX2_needCopy_6 : decode cX2_needCopy 6 = .ok (.getfield 23, 3) := by decide +kernel
theorem dX2_needCopy_9 : decode cX2_needCopy 9 = .ok (.getfield 128, 3) := by decide +kernel
theorem dX2_needCopy_12 : decode cX2_needCopy 12 = .ok (.if_icmp .lt 13, 3) := by decide +kernel
theorem dX2_needCopy_15 : decode cX2_needCopy 15 = .ok (.new 87, 3) := by decide +kernel
theorem dX2_needCopy_18 : decode cX2_needCopy 18 = .ok (.dup, 1) := by decide +kernel
theorem dX2_needCopy_19 : decode cX2_needCopy 19 = .ok (.ldc 235, 2) := by decide +kernel
theorem dX2_needCopy_21 : decode cX2_needCopy 21 = .ok (.invokespecial 91, 3) := by decide +kernel
theorem dX2_needCopy_24 : decode cX2_needCopy 24 = .ok (.athrow, 1) := by decide +kernel
theorem dX2_needCopy_25 : decode cX2_needCopy 25 = .ok (.return_, 1) := by decide +kernel
theorem dX2_needPerson_0 : decode cX2_needPerson 0 = .ok (.iload_n 1, 1) := by decide +kernel
theorem dX2_needPerson_1 : decode cX2_needPerson 1 = .ok (.ifCond .lt 9, 3) := by decide +kernel
theorem dX2_needPerson_4 : decode cX2_needPerson 4 = .ok (.iload_n 1, 1) := by decide +kernel
theorem dX2_needPerson_5 : decode cX2_needPerson 5 = .ok (.bipush 8, 2) := by decide +kernel
theorem dX2_needPerson_7 : decode cX2_needPerson 7 = .ok (.if_icmp .lt 13, 3) := by decide +kernel
theorem dX2_needPerson_10 : decode cX2_needPerson 10 = .ok (.new 87, 3) := by decide +kernel
theorem dX2_needPerson_13 : decode cX2_needPerson 13 = .ok (.dup, 1) := by decide +kernel
theorem dX2_needPerson_14 : decode cX2_needPerson 14 = .ok (.ldc 237, 2) := by decide +kernel
theorem dX2_needPerson_16 : decode cX2_needPerson 16 = .ok (.invokespecial 91, 3) := by decide +kernel
theorem dX2_needPerson_19 : decode cX2_needPerson 19 = .ok (.athrow, 1) := by decide +kernel
theorem dX2_needPerson_20 : decode cX2_needPerson 20 = .ok (.return_, 1) := by decide +kernel
set_option maxRecDepth 20000 in
theorem ggX2_needRights_X2_isSetOf : GoodIn wsX2_needRights wsX2_isSetOf := goodIn_r _ [8] (by decide +kernel) (by decide +kernel)
set_option maxRecDepth 20000 in
theorem gX2_needRights_X2_isSetOf : GoodIn wsX2_needRights (va_wsS RX2 202 yX2_isSetOf wsX2_isSetOf) := goodIn_app (goodIn_of _ (by decide +kernel)) ggX2_needRights_X2_isSetOf
theorem dX2_needRights_0 : decode cX2_needRights 0 = .ok (.aload_n 0, 1) := by decide +kernel
theorem dX2_needRights_1 : decode cX2_needRights 1 = .ok (.getfield 16, 3) := by decide +kernel
theorem dX2_needRights_4 : decode cX2_needRights 4 = .ok (.getfield 41, 3) := by decide +kernel
theorem dX2_needRights_7 : decode cX2_needRights 7 = .ok (.iload_n 1, 1) := by decide +kernel
theorem dX2_needRights_8 : decode cX2_needRights 8 = .ok (.invokestatic 202, 3) := by decide +kernel
theorem dX2_needRights_11 : decode cX2_needRights 11 = .ok (.ifCond .ne 13, 3) := by decide +kernel
theorem dX2_needRights_14 : decode cX2_needRights 14 = .ok (.new 34, 3) := by decide +kernel
theorem dX2_needRights_17 : decode cX2_needRights 17 = .ok (.dup, 1) := by decide +kernel
theorem dX2_needRights_18 : decode cX2_needRights 18 = .ok (.ldc 239, 2) := by decide +kernel
theorem dX2_needRights_20 : decode cX2_needRights 20 = .ok (.invokespecial 38, 3) := by decide +kernel
theorem dX2_needRights_23 : decode cX2_needRights 23 = .ok (.athrow, 1) := by decide +kernel
theorem dX2_needRights_24 : decode cX2_needRights 24 = .ok (.return_, 1) := by decide +kernel
theorem dX2_needDays_0 : decode cX2_needDays 0 = .ok (.iload_n 1, 1) := by decide +kernel
theorem dX2_needDays_1 : decode cX2_needDays 1 = .ok (.iconst 1, 1) := by decide +kernel
theorem dX2_needDays_2 : decode cX2_needDays 2 = .ok (.if_icmp .lt 9, 3) := by decide +kernel
theorem dX2_needDays_5 : decode cX2_needDays 5 = .ok (.iload_n 1, 1) := by decide +kernel
theorem dX2_needDays_6 : decode cX2_needDays 6 = .ok (.bipush 99, 2) := by decide +kernel
theorem dX2_needDays_8 : decode cX2_needDays 8 = .ok (.if_icmp .le 13, 3) := by decide +kernel
theorem dX2_needDays_11 : decode cX2_needDays 11 = .ok (.new 34, 3) := by decide +kernel
theorem dX2_needDays_14 : decode cX2_needDays 14 = .ok (.dup, 1) := by decide +kernel
theorem dX2_needDays_15 : decode cX2_needDays 15 = .ok (.ldc 241, 2) := by decide +kernel
theorem dX2_needDays_17 : decode cX2_needDays 17 = .ok (.invokespecial 38, 3) := by decide +kernel
theorem dX2_needDays_20 : decode cX2_needDays 20 = .ok (.athrow, 1) := by decide +kernel
theorem dX2_needDays_21 : decode cX2_needDays 21 = .ok (.return_, 1) := by decide +kernel
theorem dX2_isSetOf_0 : decode cX2_isSetOf 0 = .ok (.iload_n 1, 1) := by decide +kernel
theorem dX2_isSetOf_1 : decode cX2_isSetOf 1 = .ok (.iconst 1, 1) := by decide +kernel
theorem dX2_isSetOf_2 : decode cX2_isSetOf 2 = .ok (.iload_n 0, 1) := by decide +kernel
theorem dX2_isSetOf_3 : decode cX2_isSetOf 3 = .ok (.ishl, 1) := by decide +kernel
theorem dX2_isSetOf_4 : decode cX2_isSetOf 4 = .ok (.ineg, 1) := by decide +kernel
theorem dX2_isSetOf_5 : decode cX2_isSetOf 5 = .ok (.iand, 1) := by decide +kernel
theorem dX2_isSetOf_6 : decode cX2_isSetOf 6 = .ok (.ifCond .ne 7, 3) := by decide +kernel
theorem dX2_isSetOf_9 : decode cX2_isSetOf 9 = .ok (.iconst 1, 1) := by decide +kernel
theorem dX2_isSetOf_10 : decode cX2_isSetOf 10 = .ok (.goto 4, 3) := by decide +kernel
theorem dX2_isSetOf_13 : decode cX2_isSetOf 13 = .ok (.iconst 0, 1) := by decide +kernel
theorem dX2_isSetOf_14 : decode cX2_isSetOf 14 = .ok (.ireturn, 1) := by decide +kernel
theorem dX2_contains_0 : decode cX2_contains 0 = .ok (.iload_n 1, 1) := by decide +kernel
theorem dX2_contains_1 : decode cX2_contains 1 = .ok (.iload_n 0, 1) := by decide +kernel
theorem dX2_contains_2 : decode cX2_contains 2 = .ok (.iconst (-1), 1) := by decide +kernel
theorem dX2_contains_3 : decode cX2_contains 3 = .ok (.ixor, 1) := by decide +kernel
theorem dX2_contains_4 : decode cX2_contains 4 = .ok (.iand, 1) := by decide +kernel
theorem dX2_contains_5 : decode cX2_contains 5 = .ok (.ifCond .ne 7, 3) := by decide +kernel
theorem dX2_contains_8 : decode cX2_contains 8 = .ok (.iconst 1, 1) := by decide +kernel
theorem dX2_contains_9 : decode cX2_contains 9 = .ok (.goto 4, 3) := by decide +kernel
theorem dX2_contains_12 : decode cX2_contains 12 = .ok (.iconst 0, 1) := by decide +kernel
theorem dX2_contains_13 : decode cX2_contains 13 = .ok (.ireturn, 1) := by decide +kernel
set_option maxRecDepth 20000 in
theorem ggX2_doorsReached_X0_keysHeldBy : GoodIn wsX2_doorsReached wsX0_keysHeldBy := goodIn_r _ [7, 8, 9, 10, 11, 12, 6, 13, 14, 15, 16, 17, 18, 19, 20, 46, 47, 48, 49, 50, 51, 52, 53] (by decide +kernel) (by decide +kernel)
set_option maxRecDepth 20000 in
theorem gX2_doorsReached_X0_keysHeldBy : GoodIn wsX2_doorsReached (wsV RX2 243 RX0 yX0_keysHeldBy wsX0_keysHeldBy) := goodIn_app (goodIn_of _ (by decide +kernel)) ggX2_doorsReached_X0_keysHeldBy
set_option maxRecDepth 20000 in
theorem ggX2_doorsReached_X1_doorsOfAll : GoodIn wsX2_doorsReached wsX1_doorsOfAll := goodIn_r _ [25, 26, 27, 28, 29, 24, 30, 31, 32, 33, 34, 35, 36, 37, 38, 39, 40, 54, 55, 56, 57, 58, 59, 60, 61] (by decide +kernel) (by decide +kernel)
set_option maxRecDepth 20000 in
theorem gX2_doorsReached_X1_doorsOfAll : GoodIn wsX2_doorsReached (wsV RX2 246 RX1 yX1_doorsOfAll wsX1_doorsOfAll) := goodIn_app (goodIn_of _ (by decide +kernel)) ggX2_doorsReached_X1_doorsOfAll
theorem dX2_doorsReached_0 : decode cX2_doorsReached 0 = .ok (.aload_n 0, 1) := by decide +kernel
theorem dX2_doorsReached_1 : decode cX2_doorsReached 1 = .ok (.getfield 16, 3) := by decide +kernel
theorem dX2_doorsReached_4 : decode cX2_doorsReached 4 = .ok (.aload_n 0, 1) := by decide +kernel
theorem dX2_doorsReached_5 : decode cX2_doorsReached 5 = .ok (.getfield 23, 3) := by decide +kernel
theorem dX2_doorsReached_8 : decode cX2_doorsReached 8 = .ok (.iload_n 1, 1) := by decide +kernel
theorem dX2_doorsReached_9 : decode cX2_doorsReached 9 = .ok (.invokevirtual 243, 3) := by decide +kernel
theorem dX2_doorsReached_12 : decode cX2_doorsReached 12 = .ok (.invokevirtual 246, 3) := by decide +kernel
theorem dX2_doorsReached_15 : decode cX2_doorsReached 15 = .ok (.ireturn, 1) := by decide +kernel
set_option maxRecDepth 20000 in
theorem ggX2_doorsAtRisk_X0_keysLost : GoodIn wsX2_doorsAtRisk wsX0_keysLost := goodIn_r _ [7, 8, 9, 10, 36, 37, 38, 39, 40, 41, 42, 43] (by decide +kernel) (by decide +kernel)
set_option maxRecDepth 20000 in
theorem gX2_doorsAtRisk_X0_keysLost : GoodIn wsX2_doorsAtRisk (wsV RX2 249 RX0 yX0_keysLost wsX0_keysLost) := goodIn_app (goodIn_of _ (by decide +kernel)) ggX2_doorsAtRisk_X0_keysLost
set_option maxRecDepth 20000 in
theorem ggX2_doorsAtRisk_X1_doorsOfAll : GoodIn wsX2_doorsAtRisk wsX1_doorsOfAll := goodIn_r _ [15, 16, 17, 18, 19, 14, 20, 21, 22, 23, 24, 25, 26, 27, 28, 29, 30, 44, 45, 46, 47, 48, 49, 50, 51] (by decide +kernel) (by decide +kernel)
set_option maxRecDepth 20000 in
theorem gX2_doorsAtRisk_X1_doorsOfAll : GoodIn wsX2_doorsAtRisk (wsV RX2 246 RX1 yX1_doorsOfAll wsX1_doorsOfAll) := goodIn_app (goodIn_of _ (by decide +kernel)) ggX2_doorsAtRisk_X1_doorsOfAll
theorem dX2_doorsAtRisk_0 : decode cX2_doorsAtRisk 0 = .ok (.aload_n 0, 1) := by decide +kernel
theorem dX2_doorsAtRisk_1 : decode cX2_doorsAtRisk 1 = .ok (.getfield 16, 3) := by decide +kernel
theorem dX2_doorsAtRisk_4 : decode cX2_doorsAtRisk 4 = .ok (.aload_n 0, 1) := by decide +kernel
theorem dX2_doorsAtRisk_5 : decode cX2_doorsAtRisk 5 = .ok (.getfield 23, 3) := by decide +kernel
theorem dX2_doorsAtRisk_8 : decode cX2_doorsAtRisk 8 = .ok (.invokevirtual 249, 3) := by decide +kernel
theorem dX2_doorsAtRisk_11 : decode cX2_doorsAtRisk 11 = .ok (.invokevirtual 246, 3) := by decide +kernel
theorem dX2_doorsAtRisk_14 : decode cX2_doorsAtRisk 14 = .ok (.ireturn, 1) := by decide +kernel
set_option maxRecDepth 20000 in
theorem ggX2_bestCopies_X2_doorsOpenedBy : GoodIn wsX2_bestCopies wsX2_doorsOpenedBy := goodIn_r _ [7, 1, 2, 8, 24, 25, 26, 27, 28, 29, 30, 31, 32, 33, 34, 35, 36] (by decide +kernel) (by decide +kernel)
set_option maxRecDepth 20000 in
theorem gX2_bestCopies_X2_doorsOpenedBy : GoodIn wsX2_bestCopies (wsV RX2 252 RX2 yX2_doorsOpenedBy wsX2_doorsOpenedBy) := goodIn_app (goodIn_of _ (by decide +kernel)) ggX2_bestCopies_X2_doorsOpenedBy
set_option maxRecDepth 20000 in
theorem ggX2_bestCopies_X2_contains : GoodIn wsX2_bestCopies wsX2_contains := goodIn_r _ [11] (by decide +kernel) (by decide +kernel)
set_option maxRecDepth 20000 in
theorem gX2_bestCopies_X2_contains : GoodIn wsX2_bestCopies (va_wsS RX2 113 yX2_contains wsX2_contains) := goodIn_app (goodIn_of _ (by decide +kernel)) ggX2_bestCopies_X2_contains
set_option maxRecDepth 20000 in
theorem ggX2_bestCopies_X2_copiesOf : GoodIn wsX2_bestCopies wsX2_copiesOf := goodIn_r _ [15, 1, 2, 16, 24, 25, 26, 27, 28, 29, 30, 31, 32, 33, 34, 35, 36] (by decide +kernel) (by decide +kernel)
set_option maxRecDepth 20000 in
theorem gX2_bestCopies_X2_copiesOf : GoodIn wsX2_bestCopies (wsV RX2 255 RX2 yX2_copiesOf wsX2_copiesOf) := goodIn_app (goodIn_of _ (by decide +kernel)) ggX2_bestCopies_X2_copiesOf
set_option maxRecDepth 20000 in
theorem ggX2_bestCopies_J6_bitCount_0f7a4 : GoodIn wsX2_bestCopies wsJ6_bitCount_0f7a4 := goodIn_r _ [20, 21, 22, 23] (by decide +kernel) (by decide +kernel)
set_option maxRecDepth 20000 in
theorem gX2_bestCopies_J6_bitCount_0f7a4 : GoodIn wsX2_bestCopies (va_wsS RX2 213 yJ6_bitCount_0f7a4 wsJ6_bitCount_0f7a4) := goodIn_app (goodIn_of _ (by decide +kernel)) ggX2_bestCopies_J6_bitCount_0f7a4
theorem dX2_bestCopies_0 : decode cX2_bestCopies 0 = .ok (.iconst (-1), 1) := by decide +kernel
theorem dX2_bestCopies_1 : decode cX2_bestCopies 1 = .ok (.istore_n 3, 1) := by decide +kernel
theorem dX2_bestCopies_2 : decode cX2_bestCopies 2 = .ok (.iconst 0, 1) := by decide +kernel
theorem dX2_bestCopies_3 : decode cX2_bestCopies 3 = .ok (.istore 4, 2) := by decide +kernel
theorem dX2_bestCopies_5 : decode cX2_bestCopies 5 = .ok (.iconst 0, 1) := by decide +kernel
theorem dX2_bestCopies_6 : decode cX2_bestCopies 6 = .ok (.istore 5, 2) := by decide +kernel
theorem dX2_bestCopies_8 : decode cX2_bestCopies 8 = .ok (.iload 5, 2) := by decide +kernel
theorem dX2_bestCopies_10 : decode cX2_bestCopies 10 = .ok (.iconst 1, 1) := by decide +kernel
theorem dX2_bestCopies_11 : decode cX2_bestCopies 11 = .ok (.aload_n 0, 1) := by decide +kernel
theorem dX2_bestCopies_12 : decode cX2_bestCopies 12 = .ok (.getfield 16, 3) := by decide +kernel
theorem dX2_bestCopies_15 : decode cX2_bestCopies 15 = .ok (.getfield 41, 3) := by decide +kernel
theorem dX2_bestCopies_18 : decode cX2_bestCopies 18 = .ok (.ishl, 1) := by decide +kernel
theorem dX2_bestCopies_19 : decode cX2_bestCopies 19 = .ok (.if_icmp .ge 97, 3) := by decide +kernel
theorem dX2_bestCopies_22 : decode cX2_bestCopies 22 = .ok (.iload_n 1, 1) := by decide +kernel
theorem dX2_bestCopies_23 : decode cX2_bestCopies 23 = .ok (.aload_n 0, 1) := by decide +kernel
theorem dX2_bestCopies_24 : decode cX2_bestCopies 24 = .ok (.iload 5, 2) := by decide +kernel
theorem dX2_bestCopies_26 : decode cX2_bestCopies 26 = .ok (.invokevirtual 252, 3) := by decide +kernel
theorem dX2_bestCopies_29 : decode cX2_bestCopies 29 = .ok (.ior, 1) := by decide +kernel
theorem dX2_bestCopies_30 : decode cX2_bestCopies 30 = .ok (.istore 6, 2) := by decide +kernel
theorem dX2_bestCopies_32 : decode cX2_bestCopies 32 = .ok (.iload 6, 2) := by decide +kernel
theorem dX2_bestCopies_34 : decode cX2_bestCopies 34 = .ok (.iload_n 2, 1) := by decide +kernel
theorem dX2_bestCopies_35 : decode cX2_bestCopies 35 = .ok (.invokestatic 113, 3) := by decide +kernel
theorem dX2_bestCopies_38 : decode cX2_bestCopies 38 = .ok (.ifCond .eq 12, 3) := by decide +kernel
theorem dX2_bestCopies_41 : decode cX2_bestCopies 41 = .ok (.aload_n 0, 1) := by decide +kernel
theorem dX2_bestCopies_42 : decode cX2_bestCopies 42 = .ok (.iload 5, 2) := by decide +kernel
theorem dX2_bestCopies_44 : decode cX2_bestCopies 44 = .ok (.invokevirtual 255, 3) := by decide +kernel
theorem dX2_bestCopies_47 : decode cX2_bestCopies 47 = .ok (.goto 4, 3) := by decide +kernel
theorem dX2_bestCopies_50 : decode cX2_bestCopies 50 = .ok (.iconst (-1), 1) := by decide +kernel
theorem dX2_bestCopies_51 : decode cX2_bestCopies 51 = .ok (.istore 7, 2) := by decide +kernel
theorem dX2_bestCopies_53 : decode cX2_bestCopies 53 = .ok (.iload 7, 2) := by decide +kernel
theorem dX2_bestCopies_55 : decode cX2_bestCopies 55 = .ok (.iconst (-1), 1) := by decide +kernel
theorem dX2_bestCopies_56 : decode cX2_bestCopies 56 = .ok (.if_icmp .ne 6, 3) := by decide +kernel
theorem dX2_bestCopies_59 : decode cX2_bestCopies 59 = .ok (.goto 51, 3) := by decide +kernel
theorem dX2_bestCopies_62 : decode cX2_bestCopies 62 = .ok (.iload 7, 2) := by decide +kernel
theorem dX2_bestCopies_64 : decode cX2_bestCopies 64 = .ok (.invokestatic 213, 3) := by decide +kernel
theorem dX2_bestCopies_67 : decode cX2_bestCopies 67 = .ok (.bipush 9, 2) := by decide +kernel
theorem dX2_bestCopies_69 : decode cX2_bestCopies 69 = .ok (.imul, 1) := by decide +kernel
theorem dX2_bestCopies_70 : decode cX2_bestCopies 70 = .ok (.iload 6, 2) := by decide +kernel
theorem dX2_bestCopies_72 : decode cX2_bestCopies 72 = .ok (.invokestatic 213, 3) := by decide +kernel
theorem dX2_bestCopies_75 : decode cX2_bestCopies 75 = .ok (.iadd, 1) := by decide +kernel
theorem dX2_bestCopies_76 : decode cX2_bestCopies 76 = .ok (.istore 8, 2) := by decide +kernel
theorem dX2_bestCopies_78 : decode cX2_bestCopies 78 = .ok (.iload_n 3, 1) := by decide +kernel
theorem dX2_bestCopies_79 : decode cX2_bestCopies 79 = .ok (.iconst (-1), 1) := by decide +kernel
theorem dX2_bestCopies_80 : decode cX2_bestCopies 80 = .ok (.if_icmp .eq 23, 3) := by decide +kernel
theorem dX2_bestCopies_83 : decode cX2_bestCopies 83 = .ok (.iload 8, 2) := by decide +kernel
theorem dX2_bestCopies_85 : decode cX2_bestCopies 85 = .ok (.iload 4, 2) := by decide +kernel
theorem dX2_bestCopies_87 : decode cX2_bestCopies 87 = .ok (.if_icmp .lt 16, 3) := by decide +kernel
theorem dX2_bestCopies_90 : decode cX2_bestCopies 90 = .ok (.iload 8, 2) := by decide +kernel
theorem dX2_bestCopies_92 : decode cX2_bestCopies 92 = .ok (.iload 4, 2) := by decide +kernel
theorem dX2_bestCopies_94 : decode cX2_bestCopies 94 = .ok (.if_icmp .ne 16, 3) := by decide +kernel
theorem dX2_bestCopies_97 : decode cX2_bestCopies 97 = .ok (.iload 7, 2) := by decide +kernel
theorem dX2_bestCopies_99 : decode cX2_bestCopies 99 = .ok (.iload_n 3, 1) := by decide +kernel
theorem dX2_bestCopies_100 : decode cX2_bestCopies 100 = .ok (.if_icmp .ge 10, 3) := by decide +kernel
theorem dX2_bestCopies_103 : decode cX2_bestCopies 103 = .ok (.iload 7, 2) := by decide +kernel
theorem dX2_bestCopies_105 : decode cX2_bestCopies 105 = .ok (.istore_n 3, 1) := by decide +kernel
theorem dX2_bestCopies_106 : decode cX2_bestCopies 106 = .ok (.iload 8, 2) := by decide +kernel
theorem dX2_bestCopies_108 : decode cX2_bestCopies 108 = .ok (.istore 4, 2) := by decide +kernel
theorem dX2_bestCopies_110 : decode cX2_bestCopies 110 = .ok (.iinc 5 1, 3) := by decide +kernel
theorem dX2_bestCopies_113 : decode cX2_bestCopies 113 = .ok (.goto (-105), 3) := by decide +kernel
theorem dX2_bestCopies_116 : decode cX2_bestCopies 116 = .ok (.iload_n 3, 1) := by decide +kernel
theorem dX2_bestCopies_117 : decode cX2_bestCopies 117 = .ok (.ireturn, 1) := by decide +kernel
theorem dX2_doorsOpenedBy_0 : decode cX2_doorsOpenedBy 0 = .ok (.iconst 0, 1) := by decide +kernel
theorem dX2_doorsOpenedBy_1 : decode cX2_doorsOpenedBy 1 = .ok (.istore_n 2, 1) := by decide +kernel
theorem dX2_doorsOpenedBy_2 : decode cX2_doorsOpenedBy 2 = .ok (.iconst 0, 1) := by decide +kernel
theorem dX2_doorsOpenedBy_3 : decode cX2_doorsOpenedBy 3 = .ok (.istore_n 3, 1) := by decide +kernel
theorem dX2_doorsOpenedBy_4 : decode cX2_doorsOpenedBy 4 = .ok (.iload_n 3, 1) := by decide +kernel
theorem dX2_doorsOpenedBy_5 : decode cX2_doorsOpenedBy 5 = .ok (.aload_n 0, 1) := by decide +kernel
theorem dX2_doorsOpenedBy_6 : decode cX2_doorsOpenedBy 6 = .ok (.getfield 16, 3) := by decide +kernel
theorem dX2_doorsOpenedBy_9 : decode cX2_doorsOpenedBy 9 = .ok (.getfield 41, 3) := by decide +kernel
theorem dX2_doorsOpenedBy_12 : decode cX2_doorsOpenedBy 12 = .ok (.if_icmp .ge 27, 3) := by decide +kernel
theorem dX2_doorsOpenedBy_15 : decode cX2_doorsOpenedBy 15 = .ok (.iload_n 1, 1) := by decide +kernel
theorem dX2_doorsOpenedBy_16 : decode cX2_doorsOpenedBy 16 = .ok (.iload_n 3, 1) := by decide +kernel
theorem dX2_doorsOpenedBy_17 : decode cX2_doorsOpenedBy 17 = .ok (.ishr, 1) := by decide +kernel
theorem dX2_doorsOpenedBy_18 : decode cX2_doorsOpenedBy 18 = .ok (.iconst 1, 1) := by decide +kernel
theorem dX2_doorsOpenedBy_19 : decode cX2_doorsOpenedBy 19 = .ok (.iand, 1) := by decide +kernel
theorem dX2_doorsOpenedBy_20 : decode cX2_doorsOpenedBy 20 = .ok (.iconst 1, 1) := by decide +kernel
theorem dX2_doorsOpenedBy_21 : decode cX2_doorsOpenedBy 21 = .ok (.if_icmp .ne 12, 3) := by decide +kernel
theorem dX2_doorsOpenedBy_24 : decode cX2_doorsOpenedBy 24 = .ok (.iload_n 2, 1) := by decide +kernel
theorem dX2_doorsOpenedBy_25 : decode cX2_doorsOpenedBy 25 = .ok (.aload_n 0, 1) := by decide +kernel
theorem dX2_doorsOpenedBy_26 : decode cX2_doorsOpenedBy 26 = .ok (.getfield 31, 3) := by decide +kernel
theorem dX2_doorsOpenedBy_29 : decode cX2_doorsOpenedBy 29 = .ok (.iload_n 3, 1) := by decide +kernel
theorem dX2_doorsOpenedBy_30 : decode cX2_doorsOpenedBy 30 = .ok (.iaload, 1) := by decide +kernel
theorem dX2_doorsOpenedBy_31 : decode cX2_doorsOpenedBy 31 = .ok (.ior, 1) := by decide +kernel
theorem dX2_doorsOpenedBy_32 : decode cX2_doorsOpenedBy 32 = .ok (.istore_n 2, 1) := by decide +kernel
theorem dX2_doorsOpenedBy_33 : decode cX2_doorsOpenedBy 33 = .ok (.iinc 3 1, 3) := by decide +kernel
theorem dX2_doorsOpenedBy_36 : decode cX2_doorsOpenedBy 36 = .ok (.goto (-32), 3) := by decide +kernel
theorem dX2_doorsOpenedBy_39 : decode cX2_doorsOpenedBy 39 = .ok (.iload_n 2, 1) := by decide +kernel
theorem dX2_doorsOpenedBy_40 : decode cX2_doorsOpenedBy 40 = .ok (.ireturn, 1) := by decide +kernel
theorem dX2_copiesOf_0 : decode cX2_copiesOf 0 = .ok (.iconst 0, 1) := by decide +kernel
theorem dX2_copiesOf_1 : decode cX2_copiesOf 1 = .ok (.istore_n 2, 1) := by decide +kernel
theorem dX2_copiesOf_2 : decode cX2_copiesOf 2 = .ok (.iconst 0, 1) := by decide +kernel
theorem dX2_copiesOf_3 : decode cX2_copiesOf 3 = .ok (.istore_n 3, 1) := by decide +kernel
theorem dX2_copiesOf_4 : decode cX2_copiesOf 4 = .ok (.iload_n 3, 1) := by decide +kernel
theorem dX2_copiesOf_5 : decode cX2_copiesOf 5 = .ok (.aload_n 0, 1) := by decide +kernel
theorem dX2_copiesOf_6 : decode cX2_copiesOf 6 = .ok (.getfield 16, 3) := by decide +kernel
theorem dX2_copiesOf_9 : decode cX2_copiesOf 9 = .ok (.getfield 41, 3) := by decide +kernel
theorem dX2_copiesOf_12 : decode cX2_copiesOf 12 = .ok (.if_icmp .ge 41, 3) := by decide +kernel
theorem dX2_copiesOf_15 : decode cX2_copiesOf 15 = .ok (.iload_n 1, 1) := by decide +kernel
theorem dX2_copiesOf_16 : decode cX2_copiesOf 16 = .ok (.iload_n 3, 1) := by decide +kernel
theorem dX2_copiesOf_17 : decode cX2_copiesOf 17 = .ok (.ishr, 1) := by decide +kernel
theorem dX2_copiesOf_18 : decode cX2_copiesOf 18 = .ok (.iconst 1, 1) := by decide +kernel
theorem dX2_copiesOf_19 : decode cX2_copiesOf 19 = .ok (.iand, 1) := by decide +kernel
theorem dX2_copiesOf_20 : decode cX2_copiesOf 20 = .ok (.iconst 1, 1) := by decide +kernel
theorem dX2_copiesOf_21 : decode cX2_copiesOf 21 = .ok (.if_icmp .ne 26, 3) := by decide +kernel
theorem dX2_copiesOf_24 : decode cX2_copiesOf 24 = .ok (.aload_n 0, 1) := by decide +kernel
theorem dX2_copiesOf_25 : decode cX2_copiesOf 25 = .ok (.getfield 27, 3) := by decide +kernel
theorem dX2_copiesOf_28 : decode cX2_copiesOf 28 = .ok (.iload_n 3, 1) := by decide +kernel
theorem dX2_copiesOf_29 : decode cX2_copiesOf 29 = .ok (.iaload, 1) := by decide +kernel
theorem dX2_copiesOf_30 : decode cX2_copiesOf 30 = .ok (.iconst (-1), 1) := by decide +kernel
theorem dX2_copiesOf_31 : decode cX2_copiesOf 31 = .ok (.if_icmp .ne 5, 3) := by decide +kernel
theorem dX2_copiesOf_34 : decode cX2_copiesOf 34 = .ok (.iconst (-1), 1) := by decide +kernel
theorem dX2_copiesOf_35 : decode cX2_copiesOf 35 = .ok (.ireturn, 1) := by decide +kernel
theorem dX2_copiesOf_36 : decode cX2_copiesOf 36 = .ok (.iload_n 2, 1) := by decide +kernel
theorem dX2_copiesOf_37 : decode cX2_copiesOf 37 = .ok (.iconst 1, 1) := by decide +kernel
theorem dX2_copiesOf_38 : decode cX2_copiesOf 38 = .ok (.aload_n 0, 1) := by decide +kernel
theorem dX2_copiesOf_39 : decode cX2_copiesOf 39 = .ok (.getfield 27, 3) := by decide +kernel
theorem dX2_copiesOf_42 : decode cX2_copiesOf 42 = .ok (.iload_n 3, 1) := by decide +kernel
theorem dX2_copiesOf_43 : decode cX2_copiesOf 43 = .ok (.iaload, 1) := by decide +kernel
theorem dX2_copiesOf_44 : decode cX2_copiesOf 44 = .ok (.ishl, 1) := by decide +kernel
theorem dX2_copiesOf_45 : decode cX2_copiesOf 45 = .ok (.ior, 1) := by decide +kernel
theorem dX2_copiesOf_46 : decode cX2_copiesOf 46 = .ok (.istore_n 2, 1) := by decide +kernel
theorem dX2_copiesOf_47 : decode cX2_copiesOf 47 = .ok (.iinc 3 1, 3) := by decide +kernel
theorem dX2_copiesOf_50 : decode cX2_copiesOf 50 = .ok (.goto (-46), 3) := by decide +kernel
theorem dX2_copiesOf_53 : decode cX2_copiesOf 53 = .ok (.iload_n 2, 1) := by decide +kernel
theorem dX2_copiesOf_54 : decode cX2_copiesOf 54 = .ok (.ireturn, 1) := by decide +kernel
set_option maxRecDepth 20000 in
theorem ggX2_mixDoor_X2_mix : GoodIn wsX2_mixDoor wsX2_mix := goodIn_r _ [6, 7] (by decide +kernel) (by decide +kernel)
set_option maxRecDepth 20000 in
theorem gX2_mixDoor_X2_mix : GoodIn wsX2_mixDoor (va_wsS RX2 220 yX2_mix wsX2_mix) := goodIn_app (goodIn_of _ (by decide +kernel)) ggX2_mixDoor_X2_mix
set_option maxRecDepth 20000 in
theorem ggX2_mixDoor_X1_pinsAt : GoodIn wsX2_mixDoor wsX1_pinsAt := goodIn_r _ [12, 13, 19, 20, 21, 22, 23, 24, 25, 26] (by decide +kernel) (by decide +kernel)
set_option maxRecDepth 20000 in
theorem gX2_mixDoor_X1_pinsAt : GoodIn wsX2_mixDoor (wsV RX2 92 RX1 yX1_pinsAt wsX1_pinsAt) := goodIn_app (goodIn_of _ (by decide +kernel)) ggX2_mixDoor_X1_pinsAt
theorem dX2_mixDoor_0 : decode cX2_mixDoor 0 = .ok (.lload_n 1, 1) := by decide +kernel
theorem dX2_mixDoor_1 : decode cX2_mixDoor 1 = .ok (.aload_n 0, 1) := by decide +kernel
theorem dX2_mixDoor_2 : decode cX2_mixDoor 2 = .ok (.getfield 16, 3) := by decide +kernel
theorem dX2_mixDoor_5 : decode cX2_mixDoor 5 = .ok (.getfield 74, 3) := by decide +kernel
theorem dX2_mixDoor_8 : decode cX2_mixDoor 8 = .ok (.iload_n 3, 1) := by decide +kernel
theorem dX2_mixDoor_9 : decode cX2_mixDoor 9 = .ok (.iaload, 1) := by decide +kernel
theorem dX2_mixDoor_10 : decode cX2_mixDoor 10 = .ok (.i2l, 1) := by decide +kernel
theorem dX2_mixDoor_11 : decode cX2_mixDoor 11 = .ok (.invokestatic 220, 3) := by decide +kernel
theorem dX2_mixDoor_14 : decode cX2_mixDoor 14 = .ok (.lstore 4, 2) := by decide +kernel
theorem dX2_mixDoor_16 : decode cX2_mixDoor 16 = .ok (.iconst 0, 1) := by decide +kernel
theorem dX2_mixDoor_17 : decode cX2_mixDoor 17 = .ok (.istore 6, 2) := by decide +kernel
theorem dX2_mixDoor_19 : decode cX2_mixDoor 19 = .ok (.iload 6, 2) := by decide +kernel
theorem dX2_mixDoor_21 : decode cX2_mixDoor 21 = .ok (.iconst 5, 1) := by decide +kernel
theorem dX2_mixDoor_22 : decode cX2_mixDoor 22 = .ok (.if_icmp .ge 27, 3) := by decide +kernel
theorem dX2_mixDoor_25 : decode cX2_mixDoor 25 = .ok (.lload 4, 2) := by decide +kernel
theorem dX2_mixDoor_27 : decode cX2_mixDoor 27 = .ok (.aload_n 0, 1) := by decide +kernel
theorem dX2_mixDoor_28 : decode cX2_mixDoor 28 = .ok (.getfield 16, 3) := by decide +kernel
theorem dX2_mixDoor_31 : decode cX2_mixDoor 31 = .ok (.iload_n 3, 1) := by decide +kernel
theorem dX2_mixDoor_32 : decode cX2_mixDoor 32 = .ok (.iload 6, 2) := by decide +kernel
theorem dX2_mixDoor_34 : decode cX2_mixDoor 34 = .ok (.invokevirtual 92, 3) := by decide +kernel
theorem dX2_mixDoor_37 : decode cX2_mixDoor 37 = .ok (.i2l, 1) := by decide +kernel
theorem dX2_mixDoor_38 : decode cX2_mixDoor 38 = .ok (.invokestatic 220, 3) := by decide +kernel
theorem dX2_mixDoor_41 : decode cX2_mixDoor 41 = .ok (.lstore 4, 2) := by decide +kernel
theorem dX2_mixDoor_43 : decode cX2_mixDoor 43 = .ok (.iinc 6 1, 3) := by decide +kernel
theorem dX2_mixDoor_46 : decode cX2_mixDoor 46 = .ok (.goto (-27), 3) := by decide +kernel
theorem dX2_mixDoor_49 : decode cX2_mixDoor 49 = .ok (.lload 4, 2) := by decide +kernel
theorem dX2_mixDoor_51 : decode cX2_mixDoor 51 = .ok (.lreturn, 1) := by decide +kernel
set_option maxRecDepth 20000 in
theorem ggX2_mixCopy_X2_mix : GoodIn wsX2_mixCopy wsX2_mix := goodIn_r _ [8, 9] (by decide +kernel) (by decide +kernel)
set_option maxRecDepth 20000 in
theorem gX2_mixCopy_X2_mix : GoodIn wsX2_mixCopy (va_wsS RX2 220 yX2_mix wsX2_mix) := goodIn_app (goodIn_of _ (by decide +kernel)) ggX2_mixCopy_X2_mix
set_option maxRecDepth 20000 in
theorem ggX2_mixCopy_X0_holderOf : GoodIn wsX2_mixCopy wsX0_holderOf := goodIn_r _ [14, 15, 16, 17, 18, 19, 13, 20, 21, 32, 33, 34, 35, 36, 37, 38, 39] (by decide +kernel) (by decide +kernel)
set_option maxRecDepth 20000 in
theorem gX2_mixCopy_X0_holderOf : GoodIn wsX2_mixCopy (wsV RX2 183 RX0 yX0_holderOf wsX0_holderOf) := goodIn_app (goodIn_of _ (by decide +kernel)) ggX2_mixCopy_X0_holderOf
set_option maxRecDepth 20000 in
theorem ggX2_mixCopy_X0_dueOf : GoodIn wsX2_mixCopy wsX0_dueOf := goodIn_r _ [25, 15, 26, 17, 18, 19, 13, 20, 21, 32, 33, 34, 35, 36, 37, 38, 39] (by decide +kernel) (by decide +kernel)
set_option maxRecDepth 20000 in
theorem gX2_mixCopy_X0_dueOf : GoodIn wsX2_mixCopy (wsV RX2 159 RX0 yX0_dueOf wsX0_dueOf) := goodIn_app (goodIn_of _ (by decide +kernel)) ggX2_mixCopy_X0_dueOf
theorem dX2_mixCopy_0 : decode cX2_mixCopy 0 = .ok (.lload_n 1, 1) := by decide +kernel
theorem dX2_mixCopy_1 : decode cX2_mixCopy 1 = .ok (.aload_n 0, 1) := by decide +kernel
theorem dX2_mixCopy_2 : decode cX2_mixCopy 2 = .ok (.getfield 23, 3) := by decide +kernel
theorem dX2_mixCopy_5 : decode cX2_mixCopy 5 = .ok (.getfield 173, 3) := by decide +kernel
theorem dX2_mixCopy_8 : decode cX2_mixCopy 8 = .ok (.iload_n 3, 1) := by decide +kernel
theorem dX2_mixCopy_9 : decode cX2_mixCopy 9 = .ok (.iaload, 1) := by decide +kernel
theorem dX2_mixCopy_10 : decode cX2_mixCopy 10 = .ok (.i2l, 1) := by decide +kernel
theorem dX2_mixCopy_11 : decode cX2_mixCopy 11 = .ok (.invokestatic 220, 3) := by decide +kernel
theorem dX2_mixCopy_14 : decode cX2_mixCopy 14 = .ok (.lstore 4, 2) := by decide +kernel
theorem dX2_mixCopy_16 : decode cX2_mixCopy 16 = .ok (.lload 4, 2) := by decide +kernel
theorem dX2_mixCopy_18 : decode cX2_mixCopy 18 = .ok (.aload_n 0, 1) := by decide +kernel
theorem dX2_mixCopy_19 : decode cX2_mixCopy 19 = .ok (.getfield 23, 3) := by decide +kernel
theorem dX2_mixCopy_22 : decode cX2_mixCopy 22 = .ok (.getfield 154, 3) := by decide +kernel
theorem dX2_mixCopy_25 : decode cX2_mixCopy 25 = .ok (.iload_n 3, 1) := by decide +kernel
theorem dX2_mixCopy_26 : decode cX2_mixCopy 26 = .ok (.iaload, 1) := by decide +kernel
theorem dX2_mixCopy_27 : decode cX2_mixCopy 27 = .ok (.i2l, 1) := by decide +kernel
theorem dX2_mixCopy_28 : decode cX2_mixCopy 28 = .ok (.invokestatic 220, 3) := by decide +kernel
theorem dX2_mixCopy_31 : decode cX2_mixCopy 31 = .ok (.lstore 4, 2) := by decide +kernel
theorem dX2_mixCopy_33 : decode cX2_mixCopy 33 = .ok (.lload 4, 2) := by decide +kernel
theorem dX2_mixCopy_35 : decode cX2_mixCopy 35 = .ok (.aload_n 0, 1) := by decide +kernel
theorem dX2_mixCopy_36 : decode cX2_mixCopy 36 = .ok (.getfield 23, 3) := by decide +kernel
theorem dX2_mixCopy_39 : decode cX2_mixCopy 39 = .ok (.iload_n 3, 1) := by decide +kernel
theorem dX2_mixCopy_40 : decode cX2_mixCopy 40 = .ok (.invokevirtual 183, 3) := by decide +kernel
theorem dX2_mixCopy_43 : decode cX2_mixCopy 43 = .ok (.i2l, 1) := by decide +kernel
theorem dX2_mixCopy_44 : decode cX2_mixCopy 44 = .ok (.invokestatic 220, 3) := by decide +kernel
theorem dX2_mixCopy_47 : decode cX2_mixCopy 47 = .ok (.lstore 4, 2) := by decide +kernel
theorem dX2_mixCopy_49 : decode cX2_mixCopy 49 = .ok (.lload 4, 2) := by decide +kernel
theorem dX2_mixCopy_51 : decode cX2_mixCopy 51 = .ok (.aload_n 0, 1) := by decide +kernel
theorem dX2_mixCopy_52 : decode cX2_mixCopy 52 = .ok (.getfield 23, 3) := by decide +kernel
theorem dX2_mixCopy_55 : decode cX2_mixCopy 55 = .ok (.iload_n 3, 1) := by decide +kernel
theorem dX2_mixCopy_56 : decode cX2_mixCopy 56 = .ok (.invokevirtual 159, 3) := by decide +kernel
theorem dX2_mixCopy_59 : decode cX2_mixCopy 59 = .ok (.i2l, 1) := by decide +kernel
theorem dX2_mixCopy_60 : decode cX2_mixCopy 60 = .ok (.invokestatic 220, 3) := by decide +kernel
theorem dX2_mixCopy_63 : decode cX2_mixCopy 63 = .ok (.lstore 4, 2) := by decide +kernel
theorem dX2_mixCopy_65 : decode cX2_mixCopy 65 = .ok (.lload 4, 2) := by decide +kernel
theorem dX2_mixCopy_67 : decode cX2_mixCopy 67 = .ok (.aload_n 0, 1) := by decide +kernel
theorem dX2_mixCopy_68 : decode cX2_mixCopy 68 = .ok (.getfield 23, 3) := by decide +kernel
theorem dX2_mixCopy_71 : decode cX2_mixCopy 71 = .ok (.getfield 186, 3) := by decide +kernel
theorem dX2_mixCopy_74 : decode cX2_mixCopy 74 = .ok (.iload_n 3, 1) := by decide +kernel
theorem dX2_mixCopy_75 : decode cX2_mixCopy 75 = .ok (.iaload, 1) := by decide +kernel
theorem dX2_mixCopy_76 : decode cX2_mixCopy 76 = .ok (.i2l, 1) := by decide +kernel
theorem dX2_mixCopy_77 : decode cX2_mixCopy 77 = .ok (.invokestatic 220, 3) := by decide +kernel
theorem dX2_mixCopy_80 : decode cX2_mixCopy 80 = .ok (.lreturn, 1) := by decide +kernel
theorem dX2_mix_0 : decode cX2_mix 0 = .ok (.lload_n 0, 1) := by decide +kernel
theorem dX2_mix_1 : decode cX2_mix 1 = .ok (.ldc2_w 258, 3) := by decide +kernel
theorem dX2_mix_4 : decode cX2_mix 4 = .ok (.lmul, 1) := by decide +kernel
theorem dX2_mix_5 : decode cX2_mix 5 = .ok (.lload_n 2, 1) := by decide +kernel
theorem dX2_mix_6 : decode cX2_mix 6 = .ok (.ladd, 1) := by decide +kernel
theorem dX2_mix_7 : decode cX2_mix 7 = .ok (.lreturn, 1) := by decide +kernel
