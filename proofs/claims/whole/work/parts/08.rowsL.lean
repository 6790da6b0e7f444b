set_option maxRecDepth 20000 in
theorem ggL_addKey_X2_addKey : GoodIn wsL_addKey wsX2_addKey := goodIn_ca (goodIn_ca (goodIn_r _ [7, 8, 9, 10, 11, 12, 13, 14, 15, 16, 17, 18, 19, 20, 21, 22, 23, 24, 25, 26, 27, 28, 29, 30, 31, 32, 33, 34, 35, 36, 37, 38, 39, 40, 41] (by decide +kernel) (by decide +kernel)) (goodIn_sub (fun _ h => List.mem_cons_of_mem _ (List.mem_append_left _ (List.mem_append_right _ h))) (by decide +kernel))) (goodIn_sub (fun _ h => List.mem_cons_of_mem _ (List.mem_append_right _ h)) (by decide +kernel))
set_option maxRecDepth 20000 in
theorem gL_addKey_X2_addKey : GoodIn wsL_addKey (wsV RL 7 RX2 yX2_addKey wsX2_addKey) := goodIn_app (goodIn_of _ (by decide +kernel)) ggL_addKey_X2_addKey
theorem dL_addKey_0 : decode cL_addKey 0 = .ok (.aload_n 2, 1) := by decide +kernel
theorem dL_addKey_1 : decode cL_addKey 1 = .ok (.iconst 0, 1) := by decide +kernel
theorem dL_addKey_2 : decode cL_addKey 2 = .ok (.aload_n 0, 1) := by decide +kernel
theorem dL_addKey_3 : decode cL_addKey 3 = .ok (.iload_n 1, 1) := by decide +kernel
theorem dL_addKey_4 : decode cL_addKey 4 = .ok (.invokevirtual 7, 3) := by decide +kernel
theorem dL_addKey_7 : decode cL_addKey 7 = .ok (.i2l, 1) := by decide +kernel
theorem dL_addKey_8 : decode cL_addKey 8 = .ok (.lastore, 1) := by decide +kernel
theorem dL_addKey_9 : decode cL_addKey 9 = .ok (.goto 9, 3) := by decide +kernel
theorem dL_addKey_12 : decode cL_addKey 12 = .ok (.astore_n 3, 1) := by decide +kernel
theorem dL_addKey_13 : decode cL_addKey 13 = .ok (.iconst 1, 1) := by decide +kernel
theorem dL_addKey_14 : decode cL_addKey 14 = .ok (.ireturn, 1) := by decide +kernel
theorem dL_addKey_15 : decode cL_addKey 15 = .ok (.astore_n 3, 1) := by decide +kernel
theorem dL_addKey_16 : decode cL_addKey 16 = .ok (.iconst 2, 1) := by decide +kernel
theorem dL_addKey_17 : decode cL_addKey 17 = .ok (.ireturn, 1) := by decide +kernel
theorem dL_addKey_18 : decode cL_addKey 18 = .ok (.iconst 0, 1) := by decide +kernel
theorem dL_addKey_19 : decode cL_addKey 19 = .ok (.ireturn, 1) := by decide +kernel
set_option maxRecDepth 20000 in
theorem ggL_addDoor_X2_addDoor : GoodIn wsL_addDoor wsX2_addDoor := goodIn_ca (goodIn_ca (goodIn_r _ [7, 8, 9, 10, 11, 12, 13, 14, 6, 15, 16, 17, 18, 19, 20, 21, 22, 23, 24, 25, 26, 27, 28, 29, 30, 31, 32, 33, 34, 35, 36, 37, 38, 39, 40, 41, 42, 43, 44, 45, 46, 47, 48, 49, 50, 51, 52, 53, 54, 55, 56, 57, 58, 59, 60, 61, 62, 63, 64] (by decide +kernel) (by decide +kernel)) (goodIn_sub (fun _ h => List.mem_cons_of_mem _ (List.mem_append_left _ (List.mem_append_right _ h))) (by decide +kernel))) (goodIn_sub (fun _ h => List.mem_cons_of_mem _ (List.mem_append_right _ h)) (by decide +kernel))
set_option maxRecDepth 20000 in
theorem gL_addDoor_X2_addDoor : GoodIn wsL_addDoor (wsV RL 17 RX2 yX2_addDoor wsX2_addDoor) := goodIn_app (goodIn_of _ (by decide +kernel)) ggL_addDoor_X2_addDoor
theorem dL_addDoor_0 : decode cL_addDoor 0 = .ok (.aload_n 2, 1) := by decide +kernel
theorem dL_addDoor_1 : decode cL_addDoor 1 = .ok (.iconst 0, 1) := by decide +kernel
theorem dL_addDoor_2 : decode cL_addDoor 2 = .ok (.aload_n 0, 1) := by decide +kernel
theorem dL_addDoor_3 : decode cL_addDoor 3 = .ok (.iload_n 1, 1) := by decide +kernel
theorem dL_addDoor_4 : decode cL_addDoor 4 = .ok (.invokevirtual 17, 3) := by decide +kernel
theorem dL_addDoor_7 : decode cL_addDoor 7 = .ok (.i2l, 1) := by decide +kernel
theorem dL_addDoor_8 : decode cL_addDoor 8 = .ok (.lastore, 1) := by decide +kernel
theorem dL_addDoor_9 : decode cL_addDoor 9 = .ok (.goto 9, 3) := by decide +kernel
theorem dL_addDoor_12 : decode cL_addDoor 12 = .ok (.astore_n 3, 1) := by decide +kernel
theorem dL_addDoor_13 : decode cL_addDoor 13 = .ok (.iconst 1, 1) := by decide +kernel
theorem dL_addDoor_14 : decode cL_addDoor 14 = .ok (.ireturn, 1) := by decide +kernel
theorem dL_addDoor_15 : decode cL_addDoor 15 = .ok (.astore_n 3, 1) := by decide +kernel
theorem dL_addDoor_16 : decode cL_addDoor 16 = .ok (.iconst 2, 1) := by decide +kernel
theorem dL_addDoor_17 : decode cL_addDoor 17 = .ok (.ireturn, 1) := by decide +kernel
theorem dL_addDoor_18 : decode cL_addDoor 18 = .ok (.iconst 0, 1) := by decide +kernel
theorem dL_addDoor_19 : decode cL_addDoor 19 = .ok (.ireturn, 1) := by decide +kernel
set_option maxRecDepth 20000 in
theorem ggL_setRights_X2_setRights : GoodIn wsL_setRights wsX2_setRights := goodIn_ca (goodIn_ca (goodIn_r _ [7, 8, 9, 10, 11, 12, 6, 13, 14, 15, 16, 17, 18, 19, 20, 21, 22, 23, 24, 25, 26, 27, 28, 29, 30, 31, 32, 33, 34, 35, 36, 37, 38, 39, 40, 41, 42, 43, 44, 45, 46, 47, 48, 49, 50, 51, 52, 53, 54, 55, 56, 57, 58, 59, 60, 61, 62, 63, 64] (by decide +kernel) (by decide +kernel)) (goodIn_sub (fun _ h => List.mem_cons_of_mem _ (List.mem_append_left _ (List.mem_append_right _ h))) (by decide +kernel))) (goodIn_sub (fun _ h => List.mem_cons_of_mem _ (List.mem_append_right _ h)) (by decide +kernel))
set_option maxRecDepth 20000 in
theorem gL_setRights_X2_setRights : GoodIn wsL_setRights (wsV RL 20 RX2 yX2_setRights wsX2_setRights) := goodIn_app (goodIn_of _ (by decide +kernel)) ggL_setRights_X2_setRights
theorem dL_setRights_0 : decode cL_setRights 0 = .ok (.aload_n 3, 1) := by decide +kernel
theorem dL_setRights_1 : decode cL_setRights 1 = .ok (.iconst 0, 1) := by decide +kernel
theorem dL_setRights_2 : decode cL_setRights 2 = .ok (.aload_n 0, 1) := by decide +kernel
theorem dL_setRights_3 : decode cL_setRights 3 = .ok (.iload_n 1, 1) := by decide +kernel
theorem dL_setRights_4 : decode cL_setRights 4 = .ok (.iload_n 2, 1) := by decide +kernel
theorem dL_setRights_5 : decode cL_setRights 5 = .ok (.invokevirtual 20, 3) := by decide +kernel
theorem dL_setRights_8 : decode cL_setRights 8 = .ok (.i2l, 1) := by decide +kernel
theorem dL_setRights_9 : decode cL_setRights 9 = .ok (.lastore, 1) := by decide +kernel
theorem dL_setRights_10 : decode cL_setRights 10 = .ok (.goto 11, 3) := by decide +kernel
theorem dL_setRights_13 : decode cL_setRights 13 = .ok (.astore 4, 2) := by decide +kernel
theorem dL_setRights_15 : decode cL_setRights 15 = .ok (.iconst 1, 1) := by decide +kernel
theorem dL_setRights_16 : decode cL_setRights 16 = .ok (.ireturn, 1) := by decide +kernel
theorem dL_setRights_17 : decode cL_setRights 17 = .ok (.astore 4, 2) := by decide +kernel
theorem dL_setRights_19 : decode cL_setRights 19 = .ok (.iconst 2, 1) := by decide +kernel
theorem dL_setRights_20 : decode cL_setRights 20 = .ok (.ireturn, 1) := by decide +kernel
theorem dL_setRights_21 : decode cL_setRights 21 = .ok (.iconst 0, 1) := by decide +kernel
theorem dL_setRights_22 : decode cL_setRights 22 = .ok (.ireturn, 1) := by decide +kernel
set_option maxRecDepth 20000 in
theorem ggL_code_X2_code : GoodIn wsL_code wsX2_code := goodIn_ca (goodIn_r _ [6, 7, 8, 9, 10, 11, 5, 12, 13, 14, 15, 16, 17, 18, 19, 20, 21, 22, 23, 24, 25, 26, 27, 28] (by decide +kernel) (by decide +kernel)) (goodIn_sub (fun _ h => List.mem_cons_of_mem _ (List.mem_append_right _ h)) (by decide +kernel))
set_option maxRecDepth 20000 in
theorem gL_code_X2_code : GoodIn wsL_code (wsV RL 26 RX2 yX2_code wsX2_code) := goodIn_app (goodIn_of _ (by decide +kernel)) ggL_code_X2_code
theorem dL_code_0 : decode cL_code 0 = .ok (.aload_n 2, 1) := by decide +kernel
theorem dL_code_1 : decode cL_code 1 = .ok (.iconst 0, 1) := by decide +kernel
theorem dL_code_2 : decode cL_code 2 = .ok (.aload_n 0, 1) := by decide +kernel
theorem dL_code_3 : decode cL_code 3 = .ok (.iload_n 1, 1) := by decide +kernel
theorem dL_code_4 : decode cL_code 4 = .ok (.invokevirtual 26, 3) := by decide +kernel
theorem dL_code_7 : decode cL_code 7 = .ok (.i2l, 1) := by decide +kernel
theorem dL_code_8 : decode cL_code 8 = .ok (.lastore, 1) := by decide +kernel
theorem dL_code_9 : decode cL_code 9 = .ok (.goto 6, 3) := by decide +kernel
theorem dL_code_12 : decode cL_code 12 = .ok (.astore_n 3, 1) := by decide +kernel
theorem dL_code_13 : decode cL_code 13 = .ok (.iconst 1, 1) := by decide +kernel
theorem dL_code_14 : decode cL_code 14 = .ok (.ireturn, 1) := by decide +kernel
theorem dL_code_15 : decode cL_code 15 = .ok (.iconst 0, 1) := by decide +kernel
theorem dL_code_16 : decode cL_code 16 = .ok (.ireturn, 1) := by decide +kernel
set_option maxRecDepth 20000 in
theorem ggL_pins_X2_pins : GoodIn wsL_pins wsX2_pins := goodIn_ca (goodIn_r _ [6, 7, 8, 9, 10, 11, 12, 5, 13, 14, 15, 16, 17, 18, 19, 20, 21, 22, 23, 24, 25, 26, 27, 28, 29, 30, 31, 32, 33] (by decide +kernel) (by decide +kernel)) (goodIn_sub (fun _ h => List.mem_cons_of_mem _ (List.mem_append_right _ h)) (by decide +kernel))
set_option maxRecDepth 20000 in
theorem gL_pins_X2_pins : GoodIn wsL_pins (wsV RL 29 RX2 yX2_pins wsX2_pins) := goodIn_app (goodIn_of _ (by decide +kernel)) ggL_pins_X2_pins
theorem dL_pins_0 : decode cL_pins 0 = .ok (.aload_n 3, 1) := by decide +kernel
theorem dL_pins_1 : decode cL_pins 1 = .ok (.iconst 0, 1) := by decide +kernel
theorem dL_pins_2 : decode cL_pins 2 = .ok (.aload_n 0, 1) := by decide +kernel
theorem dL_pins_3 : decode cL_pins 3 = .ok (.iload_n 1, 1) := by decide +kernel
theorem dL_pins_4 : decode cL_pins 4 = .ok (.iload_n 2, 1) := by decide +kernel
theorem dL_pins_5 : decode cL_pins 5 = .ok (.invokevirtual 29, 3) := by decide +kernel
theorem dL_pins_8 : decode cL_pins 8 = .ok (.i2l, 1) := by decide +kernel
theorem dL_pins_9 : decode cL_pins 9 = .ok (.lastore, 1) := by decide +kernel
theorem dL_pins_10 : decode cL_pins 10 = .ok (.goto 7, 3) := by decide +kernel
theorem dL_pins_13 : decode cL_pins 13 = .ok (.astore 4, 2) := by decide +kernel
theorem dL_pins_15 : decode cL_pins 15 = .ok (.iconst 1, 1) := by decide +kernel
theorem dL_pins_16 : decode cL_pins 16 = .ok (.ireturn, 1) := by decide +kernel
theorem dL_pins_17 : decode cL_pins 17 = .ok (.iconst 0, 1) := by decide +kernel
theorem dL_pins_18 : decode cL_pins 18 = .ok (.ireturn, 1) := by decide +kernel
set_option maxRecDepth 20000 in
theorem ggL_opens_X2_opens : GoodIn wsL_opens wsX2_opens := goodIn_ca (goodIn_r _ [6, 7, 8, 9, 10, 5, 11, 12, 13, 14, 15, 16, 17, 18, 19, 20, 21, 22, 23, 24, 25, 26, 27, 28, 29, 30, 31, 32, 33, 34, 35, 36, 37, 38, 39, 40, 41] (by decide +kernel) (by decide +kernel)) (goodIn_sub (fun _ h => List.mem_cons_of_mem _ (List.mem_append_right _ h)) (by decide +kernel))
set_option maxRecDepth 20000 in
theorem gL_opens_X2_opens : GoodIn wsL_opens (wsV RL 32 RX2 yX2_opens wsX2_opens) := goodIn_app (goodIn_of _ (by decide +kernel)) ggL_opens_X2_opens
theorem dL_opens_0 : decode cL_opens 0 = .ok (.aload_n 3, 1) := by decide +kernel
theorem dL_opens_1 : decode cL_opens 1 = .ok (.iconst 0, 1) := by decide +kernel
theorem dL_opens_2 : decode cL_opens 2 = .ok (.aload_n 0, 1) := by decide +kernel
theorem dL_opens_3 : decode cL_opens 3 = .ok (.iload_n 1, 1) := by decide +kernel
theorem dL_opens_4 : decode cL_opens 4 = .ok (.iload_n 2, 1) := by decide +kernel
theorem dL_opens_5 : decode cL_opens 5 = .ok (.invokevirtual 32, 3) := by decide +kernel
theorem dL_opens_8 : decode cL_opens 8 = .ok (.ifCond .eq 7, 3) := by decide +kernel
theorem dL_opens_11 : decode cL_opens 11 = .ok (.lconst 1, 1) := by decide +kernel
theorem dL_opens_12 : decode cL_opens 12 = .ok (.goto 4, 3) := by decide +kernel
theorem dL_opens_15 : decode cL_opens 15 = .ok (.lconst 0, 1) := by decide +kernel
theorem dL_opens_16 : decode cL_opens 16 = .ok (.lastore, 1) := by decide +kernel
theorem dL_opens_17 : decode cL_opens 17 = .ok (.goto 7, 3) := by decide +kernel
theorem dL_opens_20 : decode cL_opens 20 = .ok (.astore 4, 2) := by decide +kernel
theorem dL_opens_22 : decode cL_opens 22 = .ok (.iconst 1, 1) := by decide +kernel
theorem dL_opens_23 : decode cL_opens 23 = .ok (.ireturn, 1) := by decide +kernel
theorem dL_opens_24 : decode cL_opens 24 = .ok (.iconst 0, 1) := by decide +kernel
theorem dL_opens_25 : decode cL_opens 25 = .ok (.ireturn, 1) := by decide +kernel
set_option maxRecDepth 20000 in
theorem ggL_openers_X2_openers : GoodIn wsL_openers wsX2_openers := goodIn_ca (goodIn_r _ [6, 7, 8, 9, 10, 5, 11, 12, 13, 14, 15, 16, 17, 18, 19, 20, 21, 22, 23, 24, 25, 26, 27, 28, 29, 30, 31, 32, 33, 34, 35, 36, 37, 38, 39, 40, 41] (by decide +kernel) (by decide +kernel)) (goodIn_sub (fun _ h => List.mem_cons_of_mem _ (List.mem_append_right _ h)) (by decide +kernel))
set_option maxRecDepth 20000 in
theorem gL_openers_X2_openers : GoodIn wsL_openers (wsV RL 36 RX2 yX2_openers wsX2_openers) := goodIn_app (goodIn_of _ (by decide +kernel)) ggL_openers_X2_openers
theorem dL_openers_0 : decode cL_openers 0 = .ok (.aload_n 2, 1) := by decide +kernel
theorem dL_openers_1 : decode cL_openers 1 = .ok (.iconst 0, 1) := by decide +kernel
theorem dL_openers_2 : decode cL_openers 2 = .ok (.aload_n 0, 1) := by decide +kernel
theorem dL_openers_3 : decode cL_openers 3 = .ok (.iload_n 1, 1) := by decide +kernel
theorem dL_openers_4 : decode cL_openers 4 = .ok (.invokevirtual 36, 3) := by decide +kernel
theorem dL_openers_7 : decode cL_openers 7 = .ok (.i2l, 1) := by decide +kernel
theorem dL_openers_8 : decode cL_openers 8 = .ok (.lastore, 1) := by decide +kernel
theorem dL_openers_9 : decode cL_openers 9 = .ok (.goto 6, 3) := by decide +kernel
theorem dL_openers_12 : decode cL_openers 12 = .ok (.astore_n 3, 1) := by decide +kernel
theorem dL_openers_13 : decode cL_openers 13 = .ok (.iconst 1, 1) := by decide +kernel
theorem dL_openers_14 : decode cL_openers 14 = .ok (.ireturn, 1) := by decide +kernel
theorem dL_openers_15 : decode cL_openers 15 = .ok (.iconst 0, 1) := by decide +kernel
theorem dL_openers_16 : decode cL_openers 16 = .ok (.ireturn, 1) := by decide +kernel
set_option maxRecDepth 20000 in
theorem ggL_doors_X2_doors : GoodIn wsL_doors wsX2_doors := goodIn_ca (goodIn_r _ [6, 7, 8, 9, 10, 5, 11, 12, 13, 14, 15, 16, 17, 18, 19, 20, 21, 22, 23, 24, 25, 26, 27, 28, 29, 30, 31, 32, 33, 34, 35, 36, 37, 38, 39, 40, 41] (by decide +kernel) (by decide +kernel)) (goodIn_sub (fun _ h => List.mem_cons_of_mem _ (List.mem_append_right _ h)) (by decide +kernel))
set_option maxRecDepth 20000 in
theorem gL_doors_X2_doors : GoodIn wsL_doors (wsV RL 39 RX2 yX2_doors wsX2_doors) := goodIn_app (goodIn_of _ (by decide +kernel)) ggL_doors_X2_doors
theorem dL_doors_0 : decode cL_doors 0 = .ok (.aload_n 2, 1) := by decide +kernel
theorem dL_doors_1 : decode cL_doors 1 = .ok (.iconst 0, 1) := by decide +kernel
theorem dL_doors_2 : decode cL_doors 2 = .ok (.aload_n 0, 1) := by decide +kernel
theorem dL_doors_3 : decode cL_doors 3 = .ok (.iload_n 1, 1) := by decide +kernel
theorem dL_doors_4 : decode cL_doors 4 = .ok (.invokevirtual 39, 3) := by decide +kernel
theorem dL_doors_7 : decode cL_doors 7 = .ok (.i2l, 1) := by decide +kernel
theorem dL_doors_8 : decode cL_doors 8 = .ok (.lastore, 1) := by decide +kernel
theorem dL_doors_9 : decode cL_doors 9 = .ok (.goto 6, 3) := by decide +kernel
theorem dL_doors_12 : decode cL_doors 12 = .ok (.astore_n 3, 1) := by decide +kernel
theorem dL_doors_13 : decode cL_doors 13 = .ok (.iconst 1, 1) := by decide +kernel
theorem dL_doors_14 : decode cL_doors 14 = .ok (.ireturn, 1) := by decide +kernel
theorem dL_doors_15 : decode cL_doors 15 = .ok (.iconst 0, 1) := by decide +kernel
theorem dL_doors_16 : decode cL_doors 16 = .ok (.ireturn, 1) := by decide +kernel
set_option maxRecDepth 20000 in
theorem ggL_codes_X2_codes : GoodIn wsL_codes wsX2_codes := goodIn_ca (goodIn_r _ [6, 7, 8, 9, 10, 5, 11, 12, 13, 14, 15, 16, 17, 18, 19, 20, 21, 22, 23, 24, 25, 26, 27, 28, 29, 30, 31, 32, 33, 34, 35, 36, 37, 38, 39, 40, 41, 42, 43, 44] (by decide +kernel) (by decide +kernel)) (goodIn_sub (fun _ h => List.mem_cons_of_mem _ (List.mem_append_right _ h)) (by decide +kernel))
set_option maxRecDepth 20000 in
theorem gL_codes_X2_codes : GoodIn wsL_codes (wsV RL 42 RX2 yX2_codes wsX2_codes) := goodIn_app (goodIn_of _ (by decide +kernel)) ggL_codes_X2_codes
theorem dL_codes_0 : decode cL_codes 0 = .ok (.aload_n 2, 1) := by decide +kernel
theorem dL_codes_1 : decode cL_codes 1 = .ok (.iconst 0, 1) := by decide +kernel
theorem dL_codes_2 : decode cL_codes 2 = .ok (.aload_n 0, 1) := by decide +kernel
theorem dL_codes_3 : decode cL_codes 3 = .ok (.iload_n 1, 1) := by decide +kernel
theorem dL_codes_4 : decode cL_codes 4 = .ok (.invokevirtual 42, 3) := by decide +kernel
theorem dL_codes_7 : decode cL_codes 7 = .ok (.i2l, 1) := by decide +kernel
theorem dL_codes_8 : decode cL_codes 8 = .ok (.lastore, 1) := by decide +kernel
theorem dL_codes_9 : decode cL_codes 9 = .ok (.goto 6, 3) := by decide +kernel
theorem dL_codes_12 : decode cL_codes 12 = .ok (.astore_n 3, 1) := by decide +kernel
theorem dL_codes_13 : decode cL_codes 13 = .ok (.iconst 1, 1) := by decide +kernel
theorem dL_codes_14 : decode cL_codes 14 = .ok (.ireturn, 1) := by decide +kernel
theorem dL_codes_15 : decode cL_codes 15 = .ok (.iconst 0, 1) := by decide +kernel
theorem dL_codes_16 : decode cL_codes 16 = .ok (.ireturn, 1) := by decide +kernel
set_option maxRecDepth 20000 in
theorem ggL_isAbove_X2_isAbove : GoodIn wsL_isAbove wsX2_isAbove := goodIn_ca (goodIn_r _ [6, 7, 8, 9, 10, 5, 11, 12, 13, 14, 15, 16, 17, 18, 19, 20, 21, 22, 23, 24, 25, 26, 27, 28, 29, 30, 31, 32, 33, 34, 35, 36, 37, 38, 39, 40, 41, 42] (by decide +kernel) (by decide +kernel)) (goodIn_sub (fun _ h => List.mem_cons_of_mem _ (List.mem_append_right _ h)) (by decide +kernel))
set_option maxRecDepth 20000 in
theorem gL_isAbove_X2_isAbove : GoodIn wsL_isAbove (wsV RL 45 RX2 yX2_isAbove wsX2_isAbove) := goodIn_app (goodIn_of _ (by decide +kernel)) ggL_isAbove_X2_isAbove
theorem dL_isAbove_0 : decode cL_isAbove 0 = .ok (.aload_n 3, 1) := by decide +kernel
theorem dL_isAbove_1 : decode cL_isAbove 1 = .ok (.iconst 0, 1) := by decide +kernel
theorem dL_isAbove_2 : decode cL_isAbove 2 = .ok (.aload_n 0, 1) := by decide +kernel
theorem dL_isAbove_3 : decode cL_isAbove 3 = .ok (.iload_n 1, 1) := by decide +kernel
theorem dL_isAbove_4 : decode cL_isAbove 4 = .ok (.iload_n 2, 1) := by decide +kernel
theorem dL_isAbove_5 : decode cL_isAbove 5 = .ok (.invokevirtual 45, 3) := by decide +kernel
theorem dL_isAbove_8 : decode cL_isAbove 8 = .ok (.ifCond .eq 7, 3) := by decide +kernel
theorem dL_isAbove_11 : decode cL_isAbove 11 = .ok (.lconst 1, 1) := by decide +kernel
theorem dL_isAbove_12 : decode cL_isAbove 12 = .ok (.goto 4, 3) := by decide +kernel
theorem dL_isAbove_15 : decode cL_isAbove 15 = .ok (.lconst 0, 1) := by decide +kernel
theorem dL_isAbove_16 : decode cL_isAbove 16 = .ok (.lastore, 1) := by decide +kernel
theorem dL_isAbove_17 : decode cL_isAbove 17 = .ok (.goto 7, 3) := by decide +kernel
theorem dL_isAbove_20 : decode cL_isAbove 20 = .ok (.astore 4, 2) := by decide +kernel
theorem dL_isAbove_22 : decode cL_isAbove 22 = .ok (.iconst 1, 1) := by decide +kernel
theorem dL_isAbove_23 : decode cL_isAbove 23 = .ok (.ireturn, 1) := by decide +kernel
theorem dL_isAbove_24 : decode cL_isAbove 24 = .ok (.iconst 0, 1) := by decide +kernel
theorem dL_isAbove_25 : decode cL_isAbove 25 = .ok (.ireturn, 1) := by decide +kernel
set_option maxRecDepth 20000 in
theorem ggL_replace_X2_replace : GoodIn wsL_replace wsX2_replace := goodIn_ca (goodIn_r _ [6, 7, 8, 9, 10, 11, 12, 5, 13, 14, 15, 16, 17, 18, 19, 20, 21, 22, 23, 24, 25, 26, 27, 28, 29, 30, 31, 32, 33, 34, 35, 36, 37, 38, 39, 40, 41, 42, 43, 44, 45, 46, 47, 48, 49, 50, 51, 52, 53, 54, 55, 56, 57, 58, 59, 60, 61, 62, 63, 64, 65, 66, 67, 68, 69, 70, 71, 72, 73, 74, 75, 76, 77, 78, 79, 80, 81, 82, 83, 84, 85, 86, 87, 88, 89, 90, 91, 92, 93, 94, 95, 96, 97, 98, 99, 100, 101, 102, 103, 104, 105, 106, 107, 108, 109, 110, 111, 112] (by decide +kernel) (by decide +kernel)) (goodIn_sub (fun _ h => List.mem_cons_of_mem _ (List.mem_append_right _ h)) (by decide +kernel))
set_option maxRecDepth 20000 in
theorem gL_replace_X2_replace : GoodIn wsL_replace (wsV RL 48 RX2 yX2_replace wsX2_replace) := goodIn_app (goodIn_of _ (by decide +kernel)) ggL_replace_X2_replace
theorem dL_replace_0 : decode cL_replace 0 = .ok (.aload_n 2, 1) := by decide +kernel
theorem dL_replace_1 : decode cL_replace 1 = .ok (.iconst 0, 1) := by decide +kernel
theorem dL_replace_2 : decode cL_replace 2 = .ok (.aload_n 0, 1) := by decide +kernel
theorem dL_replace_3 : decode cL_replace 3 = .ok (.iload_n 1, 1) := by decide +kernel
theorem dL_replace_4 : decode cL_replace 4 = .ok (.invokevirtual 48, 3) := by decide +kernel
theorem dL_replace_7 : decode cL_replace 7 = .ok (.i2l, 1) := by decide +kernel
theorem dL_replace_8 : decode cL_replace 8 = .ok (.lastore, 1) := by decide +kernel
theorem dL_replace_9 : decode cL_replace 9 = .ok (.goto 6, 3) := by decide +kernel
theorem dL_replace_12 : decode cL_replace 12 = .ok (.astore_n 3, 1) := by decide +kernel
theorem dL_replace_13 : decode cL_replace 13 = .ok (.iconst 1, 1) := by decide +kernel
theorem dL_replace_14 : decode cL_replace 14 = .ok (.ireturn, 1) := by decide +kernel
theorem dL_replace_15 : decode cL_replace 15 = .ok (.iconst 0, 1) := by decide +kernel
theorem dL_replace_16 : decode cL_replace 16 = .ok (.ireturn, 1) := by decide +kernel
set_option maxRecDepth 20000 in
theorem ggL_cut_X2_cut : GoodIn wsL_cut wsX2_cut := goodIn_ca (goodIn_ca (goodIn_r _ [7, 8, 9, 10, 11, 12, 13, 14, 6, 15, 16, 17, 18, 19, 20, 21, 22, 23, 24, 25, 26, 27, 28, 29, 30, 31, 32, 33, 34, 35, 36, 37, 38, 39, 40, 41, 42, 43, 44, 45, 46, 47, 48] (by decide +kernel) (by decide +kernel)) (goodIn_sub (fun _ h => List.mem_cons_of_mem _ (List.mem_append_left _ (List.mem_append_right _ h))) (by decide +kernel))) (goodIn_sub (fun _ h => List.mem_cons_of_mem _ (List.mem_append_right _ h)) (by decide +kernel))
set_option maxRecDepth 20000 in
theorem gL_cut_X2_cut : GoodIn wsL_cut (wsV RL 51 RX2 yX2_cut wsX2_cut) := goodIn_app (goodIn_of _ (by decide +kernel)) ggL_cut_X2_cut
theorem dL_cut_0 : decode cL_cut 0 = .ok (.aload_n 2, 1) := by decide +kernel
theorem dL_cut_1 : decode cL_cut 1 = .ok (.iconst 0, 1) := by decide +kernel
theorem dL_cut_2 : decode cL_cut 2 = .ok (.aload_n 0, 1) := by decide +kernel
theorem dL_cut_3 : decode cL_cut 3 = .ok (.iload_n 1, 1) := by decide +kernel
theorem dL_cut_4 : decode cL_cut 4 = .ok (.invokevirtual 51, 3) := by decide +kernel
theorem dL_cut_7 : decode cL_cut 7 = .ok (.i2l, 1) := by decide +kernel
theorem dL_cut_8 : decode cL_cut 8 = .ok (.lastore, 1) := by decide +kernel
theorem dL_cut_9 : decode cL_cut 9 = .ok (.goto 9, 3) := by decide +kernel
theorem dL_cut_12 : decode cL_cut 12 = .ok (.astore_n 3, 1) := by decide +kernel
theorem dL_cut_13 : decode cL_cut 13 = .ok (.iconst 1, 1) := by decide +kernel
theorem dL_cut_14 : decode cL_cut 14 = .ok (.ireturn, 1) := by decide +kernel
theorem dL_cut_15 : decode cL_cut 15 = .ok (.astore_n 3, 1) := by decide +kernel
theorem dL_cut_16 : decode cL_cut 16 = .ok (.iconst 2, 1) := by decide +kernel
theorem dL_cut_17 : decode cL_cut 17 = .ok (.ireturn, 1) := by decide +kernel
theorem dL_cut_18 : decode cL_cut 18 = .ok (.iconst 0, 1) := by decide +kernel
theorem dL_cut_19 : decode cL_cut 19 = .ok (.ireturn, 1) := by decide +kernel
set_option maxRecDepth 20000 in
theorem ggL_lend_X2_lend : GoodIn wsL_lend wsX2_lend := goodIn_ca (goodIn_ca (goodIn_ca (goodIn_r _ [8, 9, 10, 11, 12, 13, 14, 15, 7, 16, 17, 18, 19, 20, 21, 22, 23, 24, 25, 26, 27, 28, 29, 30, 31, 32, 33, 34, 35, 36, 37, 38, 39, 40, 41, 42, 43, 44, 45, 46, 47, 48, 49, 50, 51, 52, 53, 54, 55, 56, 57, 58, 59, 60, 61] (by decide +kernel) (by decide +kernel)) (goodIn_sub (fun _ h => List.mem_cons_of_mem _ (List.mem_append_left _ (List.mem_append_left _ (List.mem_append_right _ h)))) (by decide +kernel))) (goodIn_sub (fun _ h => List.mem_cons_of_mem _ (List.mem_append_left _ (List.mem_append_right _ h))) (by decide +kernel))) (goodIn_sub (fun _ h => List.mem_cons_of_mem _ (List.mem_append_right _ h)) (by decide +kernel))
set_option maxRecDepth 20000 in
theorem gL_lend_X2_lend : GoodIn wsL_lend (wsV RL 54 RX2 yX2_lend wsX2_lend) := goodIn_app (goodIn_of _ (by decide +kernel)) ggL_lend_X2_lend
theorem dL_lend_0 : decode cL_lend 0 = .ok (.aload 4, 2) := by decide +kernel
theorem dL_lend_2 : decode cL_lend 2 = .ok (.iconst 0, 1) := by decide +kernel
theorem dL_lend_3 : decode cL_lend 3 = .ok (.aload_n 0, 1) := by decide +kernel
theorem dL_lend_4 : decode cL_lend 4 = .ok (.iload_n 1, 1) := by decide +kernel
theorem dL_lend_5 : decode cL_lend 5 = .ok (.iload_n 2, 1) := by decide +kernel
theorem dL_lend_6 : decode cL_lend 6 = .ok (.iload_n 3, 1) := by decide +kernel
theorem dL_lend_7 : decode cL_lend 7 = .ok (.invokevirtual 54, 3) := by decide +kernel
theorem dL_lend_10 : decode cL_lend 10 = .ok (.i2l, 1) := by decide +kernel
theorem dL_lend_11 : decode cL_lend 11 = .ok (.lastore, 1) := by decide +kernel
theorem dL_lend_12 : decode cL_lend 12 = .ok (.goto 15, 3) := by decide +kernel
theorem dL_lend_15 : decode cL_lend 15 = .ok (.astore 5, 2) := by decide +kernel
theorem dL_lend_17 : decode cL_lend 17 = .ok (.iconst 1, 1) := by decide +kernel
theorem dL_lend_18 : decode cL_lend 18 = .ok (.ireturn, 1) := by decide +kernel
theorem dL_lend_19 : decode cL_lend 19 = .ok (.astore 5, 2) := by decide +kernel
theorem dL_lend_21 : decode cL_lend 21 = .ok (.iconst 2, 1) := by decide +kernel
theorem dL_lend_22 : decode cL_lend 22 = .ok (.ireturn, 1) := by decide +kernel
theorem dL_lend_23 : decode cL_lend 23 = .ok (.astore 5, 2) := by decide +kernel
theorem dL_lend_25 : decode cL_lend 25 = .ok (.iconst 3, 1) := by decide +kernel
theorem dL_lend_26 : decode cL_lend 26 = .ok (.ireturn, 1) := by decide +kernel
theorem dL_lend_27 : decode cL_lend 27 = .ok (.iconst 0, 1) := by decide +kernel
theorem dL_lend_28 : decode cL_lend 28 = .ok (.ireturn, 1) := by decide +kernel
set_option maxRecDepth 20000 in
theorem ggL_giveBack_X2_giveBack : GoodIn wsL_giveBack wsX2_giveBack := goodIn_ca (goodIn_ca (goodIn_r _ [7, 8, 9, 10, 11, 12, 13, 14, 15, 16, 17, 18, 19, 6, 20, 21, 22, 23, 24, 25, 26, 27, 28, 29, 30, 31, 32, 33, 34, 35, 36, 37, 38, 39, 40, 41, 42, 43, 44, 45, 46, 47, 48, 49, 50, 51, 52, 53] (by decide +kernel) (by decide +kernel)) (goodIn_sub (fun _ h => List.mem_cons_of_mem _ (List.mem_append_left _ (List.mem_append_right _ h))) (by decide +kernel))) (goodIn_sub (fun _ h => List.mem_cons_of_mem _ (List.mem_append_right _ h)) (by decide +kernel))
set_option maxRecDepth 20000 in
theorem gL_giveBack_X2_giveBack : GoodIn wsL_giveBack (wsV RL 58 RX2 yX2_giveBack wsX2_giveBack) := goodIn_app (goodIn_of _ (by decide +kernel)) ggL_giveBack_X2_giveBack
theorem dL_giveBack_0 : decode cL_giveBack 0 = .ok (.aload_n 2, 1) := by decide +kernel
theorem dL_giveBack_1 : decode cL_giveBack 1 = .ok (.iconst 0, 1) := by decide +kernel
theorem dL_giveBack_2 : decode cL_giveBack 2 = .ok (.aload_n 0, 1) := by decide +kernel
theorem dL_giveBack_3 : decode cL_giveBack 3 = .ok (.iload_n 1, 1) := by decide +kernel
theorem dL_giveBack_4 : decode cL_giveBack 4 = .ok (.invokevirtual 58, 3) := by decide +kernel
theorem dL_giveBack_7 : decode cL_giveBack 7 = .ok (.i2l, 1) := by decide +kernel
theorem dL_giveBack_8 : decode cL_giveBack 8 = .ok (.lastore, 1) := by decide +kernel
theorem dL_giveBack_9 : decode cL_giveBack 9 = .ok (.goto 9, 3) := by decide +kernel
theorem dL_giveBack_12 : decode cL_giveBack 12 = .ok (.astore_n 3, 1) := by decide +kernel
theorem dL_giveBack_13 : decode cL_giveBack 13 = .ok (.iconst 1, 1) := by decide +kernel
theorem dL_giveBack_14 : decode cL_giveBack 14 = .ok (.ireturn, 1) := by decide +kernel
theorem dL_giveBack_15 : decode cL_giveBack 15 = .ok (.astore_n 3, 1) := by decide +kernel
theorem dL_giveBack_16 : decode cL_giveBack 16 = .ok (.iconst 2, 1) := by decide +kernel
theorem dL_giveBack_17 : decode cL_giveBack 17 = .ok (.ireturn, 1) := by decide +kernel
theorem dL_giveBack_18 : decode cL_giveBack 18 = .ok (.iconst 0, 1) := by decide +kernel
theorem dL_giveBack_19 : decode cL_giveBack 19 = .ok (.ireturn, 1) := by decide +kernel
set_option maxRecDepth 20000 in
theorem ggL_lose_X2_lose : GoodIn wsL_lose wsX2_lose := goodIn_ca (goodIn_ca (goodIn_r _ [7, 8, 9, 10, 11, 12, 13, 14, 15, 16, 17, 6, 18, 19, 20, 21, 22, 23, 24, 25, 26, 27, 28, 29, 30, 31, 32, 33, 34, 35, 36, 37, 38, 39, 40, 41, 42, 43, 44, 45, 46, 47, 48, 49, 50, 51, 52, 53, 54, 55, 56, 57, 58, 59, 60, 61, 62, 63, 64, 65, 66, 67, 68] (by decide +kernel) (by decide +kernel)) (goodIn_sub (fun _ h => List.mem_cons_of_mem _ (List.mem_append_left _ (List.mem_append_right _ h))) (by decide +kernel))) (goodIn_sub (fun _ h => List.mem_cons_of_mem _ (List.mem_append_right _ h)) (by decide +kernel))
set_option maxRecDepth 20000 in
theorem gL_lose_X2_lose : GoodIn wsL_lose (wsV RL 61 RX2 yX2_lose wsX2_lose) := goodIn_app (goodIn_of _ (by decide +kernel)) ggL_lose_X2_lose
theorem dL_lose_0 : decode cL_lose 0 = .ok (.aload_n 2, 1) := by decide +kernel
theorem dL_lose_1 : decode cL_lose 1 = .ok (.iconst 0, 1) := by decide +kernel
theorem dL_lose_2 : decode cL_lose 2 = .ok (.aload_n 0, 1) := by decide +kernel
theorem dL_lose_3 : decode cL_lose 3 = .ok (.iload_n 1, 1) := by decide +kernel
theorem dL_lose_4 : decode cL_lose 4 = .ok (.invokevirtual 61, 3) := by decide +kernel
theorem dL_lose_7 : decode cL_lose 7 = .ok (.i2l, 1) := by decide +kernel
theorem dL_lose_8 : decode cL_lose 8 = .ok (.lastore, 1) := by decide +kernel
theorem dL_lose_9 : decode cL_lose 9 = .ok (.goto 9, 3) := by decide +kernel
theorem dL_lose_12 : decode cL_lose 12 = .ok (.astore_n 3, 1) := by decide +kernel
theorem dL_lose_13 : decode cL_lose 13 = .ok (.iconst 1, 1) := by decide +kernel
theorem dL_lose_14 : decode cL_lose 14 = .ok (.ireturn, 1) := by decide +kernel
theorem dL_lose_15 : decode cL_lose 15 = .ok (.astore_n 3, 1) := by decide +kernel
theorem dL_lose_16 : decode cL_lose 16 = .ok (.iconst 2, 1) := by decide +kernel
theorem dL_lose_17 : decode cL_lose 17 = .ok (.ireturn, 1) := by decide +kernel
theorem dL_lose_18 : decode cL_lose 18 = .ok (.iconst 0, 1) := by decide +kernel
theorem dL_lose_19 : decode cL_lose 19 = .ok (.ireturn, 1) := by decide +kernel
set_option maxRecDepth 20000 in
theorem ggL_find_X2_find : GoodIn wsL_find wsX2_find := goodIn_ca (goodIn_ca (goodIn_r _ [7, 8, 9, 10, 11, 12, 13, 14, 15, 6, 16, 17, 18, 19, 20, 21, 22, 23, 24, 25, 26, 27, 28, 29, 30, 31, 32, 33, 34, 35, 36, 37, 38, 39, 40, 41, 42, 43, 44, 45, 46, 47, 48, 49, 50, 51, 52, 53, 54, 55, 56, 57, 58, 59, 60, 61, 62, 63, 64, 65, 66, 67, 68, 69, 70, 71, 72, 73, 74, 75, 76, 77, 78, 79, 80, 81, 82] (by decide +kernel) (by decide +kernel)) (goodIn_sub (fun _ h => List.mem_cons_of_mem _ (List.mem_append_left _ (List.mem_append_right _ h))) (by decide +kernel))) (goodIn_sub (fun _ h => List.mem_cons_of_mem _ (List.mem_append_right _ h)) (by decide +kernel))
set_option maxRecDepth 20000 in
theorem gL_find_X2_find : GoodIn wsL_find (wsV RL 64 RX2 yX2_find wsX2_find) := goodIn_app (goodIn_of _ (by decide +kernel)) ggL_find_X2_find
theorem dL_find_0 : decode cL_find 0 = .ok (.aload_n 2, 1) := by decide +kernel
theorem dL_find_1 : decode cL_find 1 = .ok (.iconst 0, 1) := by decide +kernel
theorem dL_find_2 : decode cL_find 2 = .ok (.aload_n 0, 1) := by decide +kernel
theorem dL_find_3 : decode cL_find 3 = .ok (.iload_n 1, 1) := by decide +kernel
theorem dL_find_4 : decode cL_find 4 = .ok (.invokevirtual 64, 3) := by decide +kernel
theorem dL_find_7 : decode cL_find 7 = .ok (.i2l, 1) := by decide +kernel
theorem dL_find_8 : decode cL_find 8 = .ok (.lastore, 1) := by decide +kernel
theorem dL_find_9 : decode cL_find 9 = .ok (.goto 9, 3) := by decide +kernel
theorem dL_find_12 : decode cL_find 12 = .ok (.astore_n 3, 1) := by decide +kernel
theorem dL_find_13 : decode cL_find 13 = .ok (.iconst 1, 1) := by decide +kernel
theorem dL_find_14 : decode cL_find 14 = .ok (.ireturn, 1) := by decide +kernel
theorem dL_find_15 : decode cL_find 15 = .ok (.astore_n 3, 1) := by decide +kernel
theorem dL_find_16 : decode cL_find 16 = .ok (.iconst 2, 1) := by decide +kernel
theorem dL_find_17 : decode cL_find 17 = .ok (.ireturn, 1) := by decide +kernel
theorem dL_find_18 : decode cL_find 18 = .ok (.iconst 0, 1) := by decide +kernel
theorem dL_find_19 : decode cL_find 19 = .ok (.ireturn, 1) := by decide +kernel
set_option maxRecDepth 20000 in
theorem ggL_pass_X2_pass : GoodIn wsL_pass wsX2_pass := goodIn_ca (goodIn_ca (goodIn_r _ [7, 8, 9, 10, 11, 12, 13, 6, 14, 15, 16, 17, 18, 19, 20, 21] (by decide +kernel) (by decide +kernel)) (goodIn_sub (fun _ h => List.mem_cons_of_mem _ (List.mem_append_left _ (List.mem_append_right _ h))) (by decide +kernel))) (goodIn_sub (fun _ h => List.mem_cons_of_mem _ (List.mem_append_right _ h)) (by decide +kernel))
set_option maxRecDepth 20000 in
theorem gL_pass_X2_pass : GoodIn wsL_pass (wsV RL 67 RX2 yX2_pass wsX2_pass) := goodIn_app (goodIn_of _ (by decide +kernel)) ggL_pass_X2_pass
theorem dL_pass_0 : decode cL_pass 0 = .ok (.aload_n 2, 1) := by decide +kernel
theorem dL_pass_1 : decode cL_pass 1 = .ok (.iconst 0, 1) := by decide +kernel
theorem dL_pass_2 : decode cL_pass 2 = .ok (.aload_n 0, 1) := by decide +kernel
theorem dL_pass_3 : decode cL_pass 3 = .ok (.iload_n 1, 1) := by decide +kernel
theorem dL_pass_4 : decode cL_pass 4 = .ok (.invokevirtual 67, 3) := by decide +kernel
theorem dL_pass_7 : decode cL_pass 7 = .ok (.i2l, 1) := by decide +kernel
theorem dL_pass_8 : decode cL_pass 8 = .ok (.lastore, 1) := by decide +kernel
theorem dL_pass_9 : decode cL_pass 9 = .ok (.goto 9, 3) := by decide +kernel
theorem dL_pass_12 : decode cL_pass 12 = .ok (.astore_n 3, 1) := by decide +kernel
theorem dL_pass_13 : decode cL_pass 13 = .ok (.iconst 1, 1) := by decide +kernel
theorem dL_pass_14 : decode cL_pass 14 = .ok (.ireturn, 1) := by decide +kernel
theorem dL_pass_15 : decode cL_pass 15 = .ok (.astore_n 3, 1) := by decide +kernel
theorem dL_pass_16 : decode cL_pass 16 = .ok (.iconst 2, 1) := by decide +kernel
theorem dL_pass_17 : decode cL_pass 17 = .ok (.ireturn, 1) := by decide +kernel
theorem dL_pass_18 : decode cL_pass 18 = .ok (.iconst 0, 1) := by decide +kernel
theorem dL_pass_19 : decode cL_pass 19 = .ok (.ireturn, 1) := by decide +kernel
set_option maxRecDepth 20000 in
theorem ggL_copy_X2_copy : GoodIn wsL_copy wsX2_copy := goodIn_ca (goodIn_r _ [6, 7, 8, 9, 10, 11, 12, 13, 14, 15, 5, 16, 17, 18, 19, 20, 21, 22, 23, 24, 25, 26, 27, 28, 29, 30, 31, 32, 33, 34, 35, 36, 37, 38, 39, 40, 41, 42, 43, 44, 45, 46, 47] (by decide +kernel) (by decide +kernel)) (goodIn_sub (fun _ h => List.mem_cons_of_mem _ (List.mem_append_right _ h)) (by decide +kernel))
set_option maxRecDepth 20000 in
theorem gL_copy_X2_copy : GoodIn wsL_copy (wsV RL 70 RX2 yX2_copy wsX2_copy) := goodIn_app (goodIn_of _ (by decide +kernel)) ggL_copy_X2_copy
theorem dL_copy_0 : decode cL_copy 0 = .ok (.aload_n 3, 1) := by decide +kernel
theorem dL_copy_1 : decode cL_copy 1 = .ok (.iconst 0, 1) := by decide +kernel
theorem dL_copy_2 : decode cL_copy 2 = .ok (.aload_n 0, 1) := by decide +kernel
theorem dL_copy_3 : decode cL_copy 3 = .ok (.iload_n 1, 1) := by decide +kernel
theorem dL_copy_4 : decode cL_copy 4 = .ok (.iload_n 2, 1) := by decide +kernel
theorem dL_copy_5 : decode cL_copy 5 = .ok (.invokevirtual 70, 3) := by decide +kernel
theorem dL_copy_8 : decode cL_copy 8 = .ok (.i2l, 1) := by decide +kernel
theorem dL_copy_9 : decode cL_copy 9 = .ok (.lastore, 1) := by decide +kernel
theorem dL_copy_10 : decode cL_copy 10 = .ok (.goto 7, 3) := by decide +kernel
theorem dL_copy_13 : decode cL_copy 13 = .ok (.astore 4, 2) := by decide +kernel
theorem dL_copy_15 : decode cL_copy 15 = .ok (.iconst 1, 1) := by decide +kernel
theorem dL_copy_16 : decode cL_copy 16 = .ok (.ireturn, 1) := by decide +kernel
theorem dL_copy_17 : decode cL_copy 17 = .ok (.iconst 0, 1) := by decide +kernel
theorem dL_copy_18 : decode cL_copy 18 = .ok (.ireturn, 1) := by decide +kernel
set_option maxRecDepth 20000 in
theorem ggL_holderAt_X2_holderAt : GoodIn wsL_holderAt wsX2_holderAt := goodIn_ca (goodIn_ca (goodIn_r _ [7, 8, 9, 10, 11, 12, 13, 14, 6, 15, 16, 17, 18, 19, 20, 21, 22, 23, 24, 25, 26, 27, 28, 29, 30, 31, 32, 33, 34, 35, 36, 37, 38, 39, 40] (by decide +kernel) (by decide +kernel)) (goodIn_sub (fun _ h => List.mem_cons_of_mem _ (List.mem_append_left _ (List.mem_append_right _ h))) (by decide +kernel))) (goodIn_sub (fun _ h => List.mem_cons_of_mem _ (List.mem_append_right _ h)) (by decide +kernel))
set_option maxRecDepth 20000 in
theorem gL_holderAt_X2_holderAt : GoodIn wsL_holderAt (wsV RL 73 RX2 yX2_holderAt wsX2_holderAt) := goodIn_app (goodIn_of _ (by decide +kernel)) ggL_holderAt_X2_holderAt
theorem dL_holderAt_0 : decode cL_holderAt 0 = .ok (.aload_n 3, 1) := by decide +kernel
theorem dL_holderAt_1 : decode cL_holderAt 1 = .ok (.iconst 0, 1) := by decide +kernel
theorem dL_holderAt_2 : decode cL_holderAt 2 = .ok (.aload_n 0, 1) := by decide +kernel
theorem dL_holderAt_3 : decode cL_holderAt 3 = .ok (.iload_n 1, 1) := by decide +kernel
theorem dL_holderAt_4 : decode cL_holderAt 4 = .ok (.iload_n 2, 1) := by decide +kernel
theorem dL_holderAt_5 : decode cL_holderAt 5 = .ok (.invokevirtual 73, 3) := by decide +kernel
theorem dL_holderAt_8 : decode cL_holderAt 8 = .ok (.i2l, 1) := by decide +kernel
theorem dL_holderAt_9 : decode cL_holderAt 9 = .ok (.lastore, 1) := by decide +kernel
theorem dL_holderAt_10 : decode cL_holderAt 10 = .ok (.goto 11, 3) := by decide +kernel
theorem dL_holderAt_13 : decode cL_holderAt 13 = .ok (.astore 4, 2) := by decide +kernel
theorem dL_holderAt_15 : decode cL_holderAt 15 = .ok (.iconst 1, 1) := by decide +kernel
theorem dL_holderAt_16 : decode cL_holderAt 16 = .ok (.ireturn, 1) := by decide +kernel
theorem dL_holderAt_17 : decode cL_holderAt 17 = .ok (.astore 4, 2) := by decide +kernel
theorem dL_holderAt_19 : decode cL_holderAt 19 = .ok (.iconst 2, 1) := by decide +kernel
theorem dL_holderAt_20 : decode cL_holderAt 20 = .ok (.ireturn, 1) := by decide +kernel
theorem dL_holderAt_21 : decode cL_holderAt 21 = .ok (.iconst 0, 1) := by decide +kernel
theorem dL_holderAt_22 : decode cL_holderAt 22 = .ok (.ireturn, 1) := by decide +kernel
set_option maxRecDepth 20000 in
theorem ggL_reach_X2_reach : GoodIn wsL_reach wsX2_reach := goodIn_ca (goodIn_r _ [6, 7, 8, 9, 5, 10, 11, 12, 13, 14, 15, 16, 17, 18, 19, 20, 21, 22, 23, 24, 25, 26, 27, 28, 29, 30, 31, 32, 33, 34, 35, 36, 37, 38, 39, 40, 41, 42, 43, 44, 45, 46, 47, 48, 49, 50, 51, 52, 53, 54, 55, 56, 57, 58, 59, 60, 61, 62, 63, 64, 65, 66, 67, 68, 69, 70, 71, 72, 73, 74, 75, 76] (by decide +kernel) (by decide +kernel)) (goodIn_sub (fun _ h => List.mem_cons_of_mem _ (List.mem_append_right _ h)) (by decide +kernel))
set_option maxRecDepth 20000 in
theorem gL_reach_X2_reach : GoodIn wsL_reach (wsV RL 76 RX2 yX2_reach wsX2_reach) := goodIn_app (goodIn_of _ (by decide +kernel)) ggL_reach_X2_reach
theorem dL_reach_0 : decode cL_reach 0 = .ok (.aload_n 2, 1) := by decide +kernel
theorem dL_reach_1 : decode cL_reach 1 = .ok (.iconst 0, 1) := by decide +kernel
theorem dL_reach_2 : decode cL_reach 2 = .ok (.aload_n 0, 1) := by decide +kernel
theorem dL_reach_3 : decode cL_reach 3 = .ok (.iload_n 1, 1) := by decide +kernel
theorem dL_reach_4 : decode cL_reach 4 = .ok (.invokevirtual 76, 3) := by decide +kernel
theorem dL_reach_7 : decode cL_reach 7 = .ok (.i2l, 1) := by decide +kernel
theorem dL_reach_8 : decode cL_reach 8 = .ok (.lastore, 1) := by decide +kernel
theorem dL_reach_9 : decode cL_reach 9 = .ok (.goto 6, 3) := by decide +kernel
theorem dL_reach_12 : decode cL_reach 12 = .ok (.astore_n 3, 1) := by decide +kernel
theorem dL_reach_13 : decode cL_reach 13 = .ok (.iconst 1, 1) := by decide +kernel
theorem dL_reach_14 : decode cL_reach 14 = .ok (.ireturn, 1) := by decide +kernel
theorem dL_reach_15 : decode cL_reach 15 = .ok (.iconst 0, 1) := by decide +kernel
theorem dL_reach_16 : decode cL_reach 16 = .ok (.ireturn, 1) := by decide +kernel
set_option maxRecDepth 20000 in
theorem ggL_suggest_X2_suggest : GoodIn wsL_suggest wsX2_suggest := goodIn_ca (goodIn_ca (goodIn_r _ [7, 8, 9, 10, 11, 12, 13, 14, 15, 16, 17, 18, 6, 19, 20, 21, 22, 23, 24, 25, 26, 27, 28, 29, 30, 31, 32, 33, 34, 35, 36, 37, 38, 39, 40, 41, 42, 43, 44, 45, 46, 47, 48, 49, 50, 51, 52, 53, 54, 55, 56, 57, 58, 59, 60, 61, 62, 63, 64, 65, 66, 67, 68, 69, 70, 71, 72, 73, 74, 75, 76, 77, 78, 79, 80, 81, 82, 83, 84, 85, 86, 87, 88, 89, 90, 91, 92, 93, 94, 95, 96, 97, 98, 99, 100, 101, 102, 103, 104, 105, 106, 107, 108, 109, 110, 111, 112, 113, 114, 115] (by decide +kernel) (by decide +kernel)) (goodIn_sub (fun _ h => List.mem_cons_of_mem _ (List.mem_append_left _ (List.mem_append_right _ h))) (by decide +kernel))) (goodIn_sub (fun _ h => List.mem_cons_of_mem _ (List.mem_append_right _ h)) (by decide +kernel))
set_option maxRecDepth 20000 in
theorem gL_suggest_X2_suggest : GoodIn wsL_suggest (wsV RL 79 RX2 yX2_suggest wsX2_suggest) := goodIn_app (goodIn_of _ (by decide +kernel)) ggL_suggest_X2_suggest
theorem dL_suggest_0 : decode cL_suggest 0 = .ok (.aload_n 3, 1) := by decide +kernel
theorem dL_suggest_1 : decode cL_suggest 1 = .ok (.iconst 0, 1) := by decide +kernel
theorem dL_suggest_2 : decode cL_suggest 2 = .ok (.aload_n 0, 1) := by decide +kernel
theorem dL_suggest_3 : decode cL_suggest 3 = .ok (.iload_n 1, 1) := by decide +kernel
theorem dL_suggest_4 : decode cL_suggest 4 = .ok (.iload_n 2, 1) := by decide +kernel
theorem dL_suggest_5 : decode cL_suggest 5 = .ok (.invokevirtual 79, 3) := by decide +kernel
theorem dL_suggest_8 : decode cL_suggest 8 = .ok (.i2l, 1) := by decide +kernel
theorem dL_suggest_9 : decode cL_suggest 9 = .ok (.lastore, 1) := by decide +kernel
theorem dL_suggest_10 : decode cL_suggest 10 = .ok (.goto 11, 3) := by decide +kernel
theorem dL_suggest_13 : decode cL_suggest 13 = .ok (.astore 4, 2) := by decide +kernel
theorem dL_suggest_15 : decode cL_suggest 15 = .ok (.iconst 1, 1) := by decide +kernel
theorem dL_suggest_16 : decode cL_suggest 16 = .ok (.ireturn, 1) := by decide +kernel
theorem dL_suggest_17 : decode cL_suggest 17 = .ok (.astore 4, 2) := by decide +kernel
theorem dL_suggest_19 : decode cL_suggest 19 = .ok (.iconst 2, 1) := by decide +kernel
theorem dL_suggest_20 : decode cL_suggest 20 = .ok (.ireturn, 1) := by decide +kernel
theorem dL_suggest_21 : decode cL_suggest 21 = .ok (.iconst 0, 1) := by decide +kernel
theorem dL_suggest_22 : decode cL_suggest 22 = .ok (.ireturn, 1) := by decide +kernel
