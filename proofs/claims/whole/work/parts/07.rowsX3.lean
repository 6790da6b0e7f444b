theorem dX3_init_0 : decode cX3_init 0 = .ok (.aload_n 0, 1) := by decide +kernel
theorem dX3_init_1 : decode cX3_init 1 = .ok (.invokespecial 1, 3) := by decide +kernel
theorem dX3_init_4 : decode cX3_init 4 = .ok (.aload_n 0, 1) := by decide +kernel
theorem dX3_init_5 : decode cX3_init 5 = .ok (.bipush 8, 2) := by decide +kernel
theorem dX3_init_7 : decode cX3_init 7 = .ok (.newarray .int, 2) := by decide +kernel
theorem dX3_init_9 : decode cX3_init 9 = .ok (.putfield 9, 3) := by decide +kernel
theorem dX3_init_12 : decode cX3_init 12 = .ok (.aload_n 0, 1) := by decide +kernel
theorem dX3_init_13 : decode cX3_init 13 = .ok (.bipush 8, 2) := by decide +kernel
theorem dX3_init_15 : decode cX3_init 15 = .ok (.newarray .int, 2) := by decide +kernel
theorem dX3_init_17 : decode cX3_init 17 = .ok (.putfield 13, 3) := by decide +kernel
theorem dX3_init_20 : decode cX3_init 20 = .ok (.aload_n 0, 1) := by decide +kernel
theorem dX3_init_21 : decode cX3_init 21 = .ok (.bipush 24, 2) := by decide +kernel
theorem dX3_init_23 : decode cX3_init 23 = .ok (.newarray .int, 2) := by decide +kernel
theorem dX3_init_25 : decode cX3_init 25 = .ok (.putfield 16, 3) := by decide +kernel
theorem dX3_init_28 : decode cX3_init 28 = .ok (.aload_n 0, 1) := by decide +kernel
theorem dX3_init_29 : decode cX3_init 29 = .ok (.bipush 24, 2) := by decide +kernel
theorem dX3_init_31 : decode cX3_init 31 = .ok (.newarray .int, 2) := by decide +kernel
theorem dX3_init_33 : decode cX3_init 33 = .ok (.putfield 19, 3) := by decide +kernel
theorem dX3_init_36 : decode cX3_init 36 = .ok (.aload_n 0, 1) := by decide +kernel
theorem dX3_init_37 : decode cX3_init 37 = .ok (.bipush 24, 2) := by decide +kernel
theorem dX3_init_39 : decode cX3_init 39 = .ok (.newarray .int, 2) := by decide +kernel
theorem dX3_init_41 : decode cX3_init 41 = .ok (.putfield 22, 3) := by decide +kernel
theorem dX3_init_44 : decode cX3_init 44 = .ok (.aload_n 0, 1) := by decide +kernel
theorem dX3_init_45 : decode cX3_init 45 = .ok (.bipush 24, 2) := by decide +kernel
theorem dX3_init_47 : decode cX3_init 47 = .ok (.newarray .int, 2) := by decide +kernel
theorem dX3_init_49 : decode cX3_init 49 = .ok (.putfield 25, 3) := by decide +kernel
theorem dX3_init_52 : decode cX3_init 52 = .ok (.aload_n 0, 1) := by decide +kernel
theorem dX3_init_53 : decode cX3_init 53 = .ok (.sipush 216, 3) := by decide +kernel
theorem dX3_init_56 : decode cX3_init 56 = .ok (.newarray .int, 2) := by decide +kernel
theorem dX3_init_58 : decode cX3_init 58 = .ok (.putfield 28, 3) := by decide +kernel
theorem dX3_init_61 : decode cX3_init 61 = .ok (.aload_n 0, 1) := by decide +kernel
theorem dX3_init_62 : decode cX3_init 62 = .ok (.sipush 216, 3) := by decide +kernel
theorem dX3_init_65 : decode cX3_init 65 = .ok (.newarray .int, 2) := by decide +kernel
theorem dX3_init_67 : decode cX3_init 67 = .ok (.putfield 31, 3) := by decide +kernel
theorem dX3_init_70 : decode cX3_init 70 = .ok (.aload_n 0, 1) := by decide +kernel
theorem dX3_init_71 : decode cX3_init 71 = .ok (.sipush 216, 3) := by decide +kernel
theorem dX3_init_74 : decode cX3_init 74 = .ok (.newarray .int, 2) := by decide +kernel
theorem dX3_init_76 : decode cX3_init 76 = .ok (.putfield 34, 3) := by decide +kernel
theorem dX3_init_79 : decode cX3_init 79 = .ok (.return_, 1) := by decide +kernel
theorem dX3_thrown_0 : decode cX3_thrown 0 = .ok (.aload_n 0, 1) := by decide +kernel
theorem dX3_thrown_1 : decode cX3_thrown 1 = .ok (.getfield 37, 3) := by decide +kernel
theorem dX3_thrown_4 : decode cX3_thrown 4 = .ok (.ireturn, 1) := by decide +kernel
theorem dX3_fail_0 : decode cX3_fail 0 = .ok (.aload_n 0, 1) := by decide +kernel
theorem dX3_fail_1 : decode cX3_fail 1 = .ok (.iload_n 1, 1) := by decide +kernel
theorem dX3_fail_2 : decode cX3_fail 2 = .ok (.putfield 37, 3) := by decide +kernel
theorem dX3_fail_5 : decode cX3_fail 5 = .ok (.iconst 0, 1) := by decide +kernel
theorem dX3_fail_6 : decode cX3_fail 6 = .ok (.ireturn, 1) := by decide +kernel
theorem dX3_isKey_0 : decode cX3_isKey 0 = .ok (.iload_n 1, 1) := by decide +kernel
theorem dX3_isKey_1 : decode cX3_isKey 1 = .ok (.ifCond .lt 15, 3) := by decide +kernel
theorem dX3_isKey_4 : decode cX3_isKey 4 = .ok (.iload_n 1, 1) := by decide +kernel
theorem dX3_isKey_5 : decode cX3_isKey 5 = .ok (.aload_n 0, 1) := by decide +kernel
theorem dX3_isKey_6 : decode cX3_isKey 6 = .ok (.getfield 41, 3) := by decide +kernel
theorem dX3_isKey_9 : decode cX3_isKey 9 = .ok (.if_icmp .ge 7, 3) := by decide +kernel
theorem dX3_isKey_12 : decode cX3_isKey 12 = .ok (.iconst 1, 1) := by decide +kernel
theorem dX3_isKey_13 : decode cX3_isKey 13 = .ok (.goto 4, 3) := by decide +kernel
theorem dX3_isKey_16 : decode cX3_isKey 16 = .ok (.iconst 0, 1) := by decide +kernel
theorem dX3_isKey_17 : decode cX3_isKey 17 = .ok (.ireturn, 1) := by decide +kernel
theorem dX3_isDoor_0 : decode cX3_isDoor 0 = .ok (.iload_n 1, 1) := by decide +kernel
theorem dX3_isDoor_1 : decode cX3_isDoor 1 = .ok (.ifCond .lt 15, 3) := by decide +kernel
theorem dX3_isDoor_4 : decode cX3_isDoor 4 = .ok (.iload_n 1, 1) := by decide +kernel
theorem dX3_isDoor_5 : decode cX3_isDoor 5 = .ok (.aload_n 0, 1) := by decide +kernel
theorem dX3_isDoor_6 : decode cX3_isDoor 6 = .ok (.getfield 44, 3) := by decide +kernel
theorem dX3_isDoor_9 : decode cX3_isDoor 9 = .ok (.if_icmp .ge 7, 3) := by decide +kernel
theorem dX3_isDoor_12 : decode cX3_isDoor 12 = .ok (.iconst 1, 1) := by decide +kernel
theorem dX3_isDoor_13 : decode cX3_isDoor 13 = .ok (.goto 4, 3) := by decide +kernel
theorem dX3_isDoor_16 : decode cX3_isDoor 16 = .ok (.iconst 0, 1) := by decide +kernel
theorem dX3_isDoor_17 : decode cX3_isDoor 17 = .ok (.ireturn, 1) := by decide +kernel
theorem dX3_isCopy_0 : decode cX3_isCopy 0 = .ok (.iload_n 1, 1) := by decide +kernel
theorem dX3_isCopy_1 : decode cX3_isCopy 1 = .ok (.ifCond .lt 15, 3) := by decide +kernel
theorem dX3_isCopy_4 : decode cX3_isCopy 4 = .ok (.iload_n 1, 1) := by decide +kernel
theorem dX3_isCopy_5 : decode cX3_isCopy 5 = .ok (.aload_n 0, 1) := by decide +kernel
theorem dX3_isCopy_6 : decode cX3_isCopy 6 = .ok (.getfield 47, 3) := by decide +kernel
theorem dX3_isCopy_9 : decode cX3_isCopy 9 = .ok (.if_icmp .ge 7, 3) := by decide +kernel
theorem dX3_isCopy_12 : decode cX3_isCopy 12 = .ok (.iconst 1, 1) := by decide +kernel
theorem dX3_isCopy_13 : decode cX3_isCopy 13 = .ok (.goto 4, 3) := by decide +kernel
theorem dX3_isCopy_16 : decode cX3_isCopy 16 = .ok (.iconst 0, 1) := by decide +kernel
theorem dX3_isCopy_17 : decode cX3_isCopy 17 = .ok (.ireturn, 1) := by decide +kernel
theorem dX3_isPerson_0 : decode cX3_isPerson 0 = .ok (.iload_n 0, 1) := by decide +kernel
theorem dX3_isPerson_1 : decode cX3_isPerson 1 = .ok (.ifCond .lt 13, 3) := by decide +kernel
theorem dX3_isPerson_4 : decode cX3_isPerson 4 = .ok (.iload_n 0, 1) := by decide +kernel
theorem dX3_isPerson_5 : decode cX3_isPerson 5 = .ok (.bipush 8, 2) := by decide +kernel
theorem dX3_isPerson_7 : decode cX3_isPerson 7 = .ok (.if_icmp .ge 7, 3) := by decide +kernel
theorem dX3_isPerson_10 : decode cX3_isPerson 10 = .ok (.iconst 1, 1) := by decide +kernel
theorem dX3_isPerson_11 : decode cX3_isPerson 11 = .ok (.goto 4, 3) := by decide +kernel
theorem dX3_isPerson_14 : decode cX3_isPerson 14 = .ok (.iconst 0, 1) := by decide +kernel
theorem dX3_isPerson_15 : decode cX3_isPerson 15 = .ok (.ireturn, 1) := by decide +kernel
theorem dX3_areKeys_0 : decode cX3_areKeys 0 = .ok (.iload_n 1, 1) := by decide +kernel
theorem dX3_areKeys_1 : decode cX3_areKeys 1 = .ok (.ifCond .lt 17, 3) := by decide +kernel
theorem dX3_areKeys_4 : decode cX3_areKeys 4 = .ok (.iload_n 1, 1) := by decide +kernel
theorem dX3_areKeys_5 : decode cX3_areKeys 5 = .ok (.iconst 1, 1) := by decide +kernel
theorem dX3_areKeys_6 : decode cX3_areKeys 6 = .ok (.aload_n 0, 1) := by decide +kernel
theorem dX3_areKeys_7 : decode cX3_areKeys 7 = .ok (.getfield 41, 3) := by decide +kernel
theorem dX3_areKeys_10 : decode cX3_areKeys 10 = .ok (.ishl, 1) := by decide +kernel
theorem dX3_areKeys_11 : decode cX3_areKeys 11 = .ok (.if_icmp .ge 7, 3) := by decide +kernel
theorem dX3_areKeys_14 : decode cX3_areKeys 14 = .ok (.iconst 1, 1) := by decide +kernel
theorem dX3_areKeys_15 : decode cX3_areKeys 15 = .ok (.goto 4, 3) := by decide +kernel
theorem dX3_areKeys_18 : decode cX3_areKeys 18 = .ok (.iconst 0, 1) := by decide +kernel
theorem dX3_areKeys_19 : decode cX3_areKeys 19 = .ok (.ireturn, 1) := by decide +kernel
theorem dX3_has_0 : decode cX3_has 0 = .ok (.iload_n 0, 1) := by decide +kernel
theorem dX3_has_1 : decode cX3_has 1 = .ok (.iload_n 1, 1) := by decide +kernel
theorem dX3_has_2 : decode cX3_has 2 = .ok (.ishr, 1) := by decide +kernel
theorem dX3_has_3 : decode cX3_has 3 = .ok (.iconst 1, 1) := by decide +kernel
theorem dX3_has_4 : decode cX3_has 4 = .ok (.iand, 1) := by decide +kernel
theorem dX3_has_5 : decode cX3_has 5 = .ok (.iconst 1, 1) := by decide +kernel
theorem dX3_has_6 : decode cX3_has 6 = .ok (.if_icmp .ne 7, 3) := by decide +kernel
theorem dX3_has_9 : decode cX3_has 9 = .ok (.iconst 1, 1) := by decide +kernel
theorem dX3_has_10 : decode cX3_has 10 = .ok (.goto 4, 3) := by decide +kernel
theorem dX3_has_13 : decode cX3_has 13 = .ok (.iconst 0, 1) := by decide +kernel
theorem dX3_has_14 : decode cX3_has 14 = .ok (.ireturn, 1) := by decide +kernel
theorem dX3_digit_0 : decode cX3_digit 0 = .ok (.iload_n 0, 1) := by decide +kernel
theorem dX3_digit_1 : decode cX3_digit 1 = .ok (.iconst 2, 1) := by decide +kernel
theorem dX3_digit_2 : decode cX3_digit 2 = .ok (.iconst 4, 1) := by decide +kernel
theorem dX3_digit_3 : decode cX3_digit 3 = .ok (.iload_n 1, 1) := by decide +kernel
theorem dX3_digit_4 : decode cX3_digit 4 = .ok (.isub, 1) := by decide +kernel
theorem dX3_digit_5 : decode cX3_digit 5 = .ok (.imul, 1) := by decide +kernel
theorem dX3_digit_6 : decode cX3_digit 6 = .ok (.ishr, 1) := by decide +kernel
theorem dX3_digit_7 : decode cX3_digit 7 = .ok (.iconst 3, 1) := by decide +kernel
theorem dX3_digit_8 : decode cX3_digit 8 = .ok (.iand, 1) := by decide +kernel
theorem dX3_digit_9 : decode cX3_digit 9 = .ok (.ireturn, 1) := by decide +kernel
set_option maxRecDepth 20000 in
theorem ggX3_pinsOf_X3_has : GoodIn wsX3_pinsOf wsX3_has := goodIn_r _ [7] (by decide +kernel) (by decide +kernel)
set_option maxRecDepth 20000 in
theorem gX3_pinsOf_X3_has : GoodIn wsX3_pinsOf (va_wsS RX3 50 yX3_has wsX3_has) := goodIn_app (goodIn_of _ (by decide +kernel)) ggX3_pinsOf_X3_has
set_option maxRecDepth 20000 in
theorem ggX3_pinsOf_X3_digit : GoodIn wsX3_pinsOf wsX3_digit := goodIn_r _ [10] (by decide +kernel) (by decide +kernel)
set_option maxRecDepth 20000 in
theorem gX3_pinsOf_X3_digit : GoodIn wsX3_pinsOf (va_wsS RX3 54 yX3_digit wsX3_digit) := goodIn_app (goodIn_of _ (by decide +kernel)) ggX3_pinsOf_X3_digit
theorem dX3_pinsOf_0 : decode cX3_pinsOf 0 = .ok (.iconst 0, 1) := by decide +kernel
theorem dX3_pinsOf_1 : decode cX3_pinsOf 1 = .ok (.istore_n 3, 1) := by decide +kernel
theorem dX3_pinsOf_2 : decode cX3_pinsOf 2 = .ok (.iconst 0, 1) := by decide +kernel
theorem dX3_pinsOf_3 : decode cX3_pinsOf 3 = .ok (.istore 4, 2) := by decide +kernel
theorem dX3_pinsOf_5 : decode cX3_pinsOf 5 = .ok (.iload 4, 2) := by decide +kernel
theorem dX3_pinsOf_7 : decode cX3_pinsOf 7 = .ok (.aload_n 0, 1) := by decide +kernel
theorem dX3_pinsOf_8 : decode cX3_pinsOf 8 = .ok (.getfield 41, 3) := by decide +kernel
theorem dX3_pinsOf_11 : decode cX3_pinsOf 11 = .ok (.if_icmp .ge 39, 3) := by decide +kernel
theorem dX3_pinsOf_14 : decode cX3_pinsOf 14 = .ok (.aload_n 0, 1) := by decide +kernel
theorem dX3_pinsOf_15 : decode cX3_pinsOf 15 = .ok (.getfield 13, 3) := by decide +kernel
theorem dX3_pinsOf_18 : decode cX3_pinsOf 18 = .ok (.iload_n 1, 1) := by decide +kernel
theorem dX3_pinsOf_19 : decode cX3_pinsOf 19 = .ok (.iaload, 1) := by decide +kernel
theorem dX3_pinsOf_20 : decode cX3_pinsOf 20 = .ok (.iload 4, 2) := by decide +kernel
theorem dX3_pinsOf_22 : decode cX3_pinsOf 22 = .ok (.invokestatic 50, 3) := by decide +kernel
theorem dX3_pinsOf_25 : decode cX3_pinsOf 25 = .ok (.ifCond .eq 19, 3) := by decide +kernel
theorem dX3_pinsOf_28 : decode cX3_pinsOf 28 = .ok (.iload_n 3, 1) := by decide +kernel
theorem dX3_pinsOf_29 : decode cX3_pinsOf 29 = .ok (.iconst 1, 1) := by decide +kernel
theorem dX3_pinsOf_30 : decode cX3_pinsOf 30 = .ok (.aload_n 0, 1) := by decide +kernel
theorem dX3_pinsOf_31 : decode cX3_pinsOf 31 = .ok (.getfield 9, 3) := by decide +kernel
theorem dX3_pinsOf_34 : decode cX3_pinsOf 34 = .ok (.iload 4, 2) := by decide +kernel
theorem dX3_pinsOf_36 : decode cX3_pinsOf 36 = .ok (.iaload, 1) := by decide +kernel
theorem dX3_pinsOf_37 : decode cX3_pinsOf 37 = .ok (.iload_n 2, 1) := by decide +kernel
theorem dX3_pinsOf_38 : decode cX3_pinsOf 38 = .ok (.invokestatic 54, 3) := by decide +kernel
theorem dX3_pinsOf_41 : decode cX3_pinsOf 41 = .ok (.ishl, 1) := by decide +kernel
theorem dX3_pinsOf_42 : decode cX3_pinsOf 42 = .ok (.ior, 1) := by decide +kernel
theorem dX3_pinsOf_43 : decode cX3_pinsOf 43 = .ok (.istore_n 3, 1) := by decide +kernel
theorem dX3_pinsOf_44 : decode cX3_pinsOf 44 = .ok (.iinc 4 1, 3) := by decide +kernel
theorem dX3_pinsOf_47 : decode cX3_pinsOf 47 = .ok (.goto (-42), 3) := by decide +kernel
theorem dX3_pinsOf_50 : decode cX3_pinsOf 50 = .ok (.iload_n 3, 1) := by decide +kernel
theorem dX3_pinsOf_51 : decode cX3_pinsOf 51 = .ok (.ireturn, 1) := by decide +kernel
set_option maxRecDepth 20000 in
theorem ggX3_allPins_X3_pinsOf : GoodIn wsX3_allPins wsX3_pinsOf := goodIn_r _ [5, 6, 7, 8, 9, 10, 4, 11, 12, 13, 14, 15, 16, 17, 18, 19, 20, 21, 22, 23, 24, 25, 26, 27, 28, 29] (by decide +kernel) (by decide +kernel)
set_option maxRecDepth 20000 in
theorem gX3_allPins_X3_pinsOf : GoodIn wsX3_allPins (wsV RX3 58 RX3 yX3_pinsOf wsX3_pinsOf) := goodIn_app (goodIn_of _ (by decide +kernel)) ggX3_allPins_X3_pinsOf
theorem dX3_allPins_0 : decode cX3_allPins 0 = .ok (.iconst 0, 1) := by decide +kernel
theorem dX3_allPins_1 : decode cX3_allPins 1 = .ok (.istore_n 2, 1) := by decide +kernel
theorem dX3_allPins_2 : decode cX3_allPins 2 = .ok (.iconst 0, 1) := by decide +kernel
theorem dX3_allPins_3 : decode cX3_allPins 3 = .ok (.istore_n 3, 1) := by decide +kernel
theorem dX3_allPins_4 : decode cX3_allPins 4 = .ok (.iload_n 3, 1) := by decide +kernel
theorem dX3_allPins_5 : decode cX3_allPins 5 = .ok (.iconst 5, 1) := by decide +kernel
theorem dX3_allPins_6 : decode cX3_allPins 6 = .ok (.if_icmp .ge 21, 3) := by decide +kernel
theorem dX3_allPins_9 : decode cX3_allPins 9 = .ok (.bipush 16, 2) := by decide +kernel
theorem dX3_allPins_11 : decode cX3_allPins 11 = .ok (.iload_n 2, 1) := by decide +kernel
theorem dX3_allPins_12 : decode cX3_allPins 12 = .ok (.imul, 1) := by decide +kernel
theorem dX3_allPins_13 : decode cX3_allPins 13 = .ok (.aload_n 0, 1) := by decide +kernel
theorem dX3_allPins_14 : decode cX3_allPins 14 = .ok (.iload_n 1, 1) := by decide +kernel
theorem dX3_allPins_15 : decode cX3_allPins 15 = .ok (.iload_n 3, 1) := by decide +kernel
theorem dX3_allPins_16 : decode cX3_allPins 16 = .ok (.invokevirtual 58, 3) := by decide +kernel
theorem dX3_allPins_19 : decode cX3_allPins 19 = .ok (.iadd, 1) := by decide +kernel
theorem dX3_allPins_20 : decode cX3_allPins 20 = .ok (.istore_n 2, 1) := by decide +kernel
theorem dX3_allPins_21 : decode cX3_allPins 21 = .ok (.iinc 3 1, 3) := by decide +kernel
theorem dX3_allPins_24 : decode cX3_allPins 24 = .ok (.goto (-20), 3) := by decide +kernel
theorem dX3_allPins_27 : decode cX3_allPins 27 = .ok (.iload_n 2, 1) := by decide +kernel
theorem dX3_allPins_28 : decode cX3_allPins 28 = .ok (.ireturn, 1) := by decide +kernel
set_option maxRecDepth 20000 in
theorem ggX3_opensWith_X3_pinsOf : GoodIn wsX3_opensWith wsX3_pinsOf := goodIn_r _ [5, 6, 7, 8, 9, 10, 4, 11, 12, 13, 14, 15, 16, 17, 18, 19, 20, 21, 22, 23, 24, 25, 26, 27, 28, 29] (by decide +kernel) (by decide +kernel)
set_option maxRecDepth 20000 in
theorem gX3_opensWith_X3_pinsOf : GoodIn wsX3_opensWith (wsV RX3 58 RX3 yX3_pinsOf wsX3_pinsOf) := goodIn_app (goodIn_of _ (by decide +kernel)) ggX3_opensWith_X3_pinsOf
set_option maxRecDepth 20000 in
theorem ggX3_opensWith_X3_digit : GoodIn wsX3_opensWith wsX3_digit := goodIn_r _ [14] (by decide +kernel) (by decide +kernel)
set_option maxRecDepth 20000 in
theorem gX3_opensWith_X3_digit : GoodIn wsX3_opensWith (va_wsS RX3 54 yX3_digit wsX3_digit) := goodIn_app (goodIn_of _ (by decide +kernel)) ggX3_opensWith_X3_digit
set_option maxRecDepth 20000 in
theorem ggX3_opensWith_X3_has : GoodIn wsX3_opensWith wsX3_has := goodIn_r _ [11] (by decide +kernel) (by decide +kernel)
set_option maxRecDepth 20000 in
theorem gX3_opensWith_X3_has : GoodIn wsX3_opensWith (va_wsS RX3 50 yX3_has wsX3_has) := goodIn_app (goodIn_of _ (by decide +kernel)) ggX3_opensWith_X3_has
theorem dX3_opensWith_0 : decode cX3_opensWith 0 = .ok (.iconst 1, 1) := by decide +kernel
theorem dX3_opensWith_1 : decode cX3_opensWith 1 = .ok (.istore_n 3, 1) := by decide +kernel
theorem dX3_opensWith_2 : decode cX3_opensWith 2 = .ok (.iconst 0, 1) := by decide +kernel
theorem dX3_opensWith_3 : decode cX3_opensWith 3 = .ok (.istore 4, 2) := by decide +kernel
theorem dX3_opensWith_5 : decode cX3_opensWith 5 = .ok (.iload 4, 2) := by decide +kernel
theorem dX3_opensWith_7 : decode cX3_opensWith 7 = .ok (.iconst 5, 1) := by decide +kernel
theorem dX3_opensWith_8 : decode cX3_opensWith 8 = .ok (.if_icmp .ge 38, 3) := by decide +kernel
theorem dX3_opensWith_11 : decode cX3_opensWith 11 = .ok (.iload_n 3, 1) := by decide +kernel
theorem dX3_opensWith_12 : decode cX3_opensWith 12 = .ok (.ifCond .eq 26, 3) := by decide +kernel
theorem dX3_opensWith_15 : decode cX3_opensWith 15 = .ok (.aload_n 0, 1) := by decide +kernel
theorem dX3_opensWith_16 : decode cX3_opensWith 16 = .ok (.iload_n 2, 1) := by decide +kernel
theorem dX3_opensWith_17 : decode cX3_opensWith 17 = .ok (.iload 4, 2) := by decide +kernel
theorem dX3_opensWith_19 : decode cX3_opensWith 19 = .ok (.invokevirtual 58, 3) := by decide +kernel
theorem dX3_opensWith_22 : decode cX3_opensWith 22 = .ok (.iload_n 1, 1) := by decide +kernel
theorem dX3_opensWith_23 : decode cX3_opensWith 23 = .ok (.iload 4, 2) := by decide +kernel
theorem dX3_opensWith_25 : decode cX3_opensWith 25 = .ok (.invokestatic 54, 3) := by decide +kernel
theorem dX3_opensWith_28 : decode cX3_opensWith 28 = .ok (.invokestatic 50, 3) := by decide +kernel
theorem dX3_opensWith_31 : decode cX3_opensWith 31 = .ok (.ifCond .eq 7, 3) := by decide +kernel
theorem dX3_opensWith_34 : decode cX3_opensWith 34 = .ok (.iconst 1, 1) := by decide +kernel
theorem dX3_opensWith_35 : decode cX3_opensWith 35 = .ok (.goto 4, 3) := by decide +kernel
theorem dX3_opensWith_38 : decode cX3_opensWith 38 = .ok (.iconst 0, 1) := by decide +kernel
theorem dX3_opensWith_39 : decode cX3_opensWith 39 = .ok (.istore_n 3, 1) := by decide +kernel
theorem dX3_opensWith_40 : decode cX3_opensWith 40 = .ok (.iinc 4 1, 3) := by decide +kernel
theorem dX3_opensWith_43 : decode cX3_opensWith 43 = .ok (.goto (-38), 3) := by decide +kernel
theorem dX3_opensWith_46 : decode cX3_opensWith 46 = .ok (.iload_n 3, 1) := by decide +kernel
theorem dX3_opensWith_47 : decode cX3_opensWith 47 = .ok (.ireturn, 1) := by decide +kernel
set_option maxRecDepth 20000 in
theorem ggX3_doorsOf_X3_opensWith : GoodIn wsX3_doorsOf wsX3_opensWith := goodIn_r _ [6, 7, 8, 9, 5, 10, 11, 12, 13, 14, 15, 16, 17, 18, 19, 20, 21, 22, 23, 24, 25, 26, 27, 28, 29, 30, 31, 32, 33, 34] (by decide +kernel) (by decide +kernel)
set_option maxRecDepth 20000 in
theorem gX3_doorsOf_X3_opensWith : GoodIn wsX3_doorsOf (wsV RX3 61 RX3 yX3_opensWith wsX3_opensWith) := goodIn_app (goodIn_of _ (by decide +kernel)) ggX3_doorsOf_X3_opensWith
theorem dX3_doorsOf_0 : decode cX3_doorsOf 0 = .ok (.iconst 0, 1) := by decide +kernel
theorem dX3_doorsOf_1 : decode cX3_doorsOf 1 = .ok (.istore_n 2, 1) := by decide +kernel
theorem dX3_doorsOf_2 : decode cX3_doorsOf 2 = .ok (.iconst 0, 1) := by decide +kernel
theorem dX3_doorsOf_3 : decode cX3_doorsOf 3 = .ok (.istore_n 3, 1) := by decide +kernel
theorem dX3_doorsOf_4 : decode cX3_doorsOf 4 = .ok (.iload_n 3, 1) := by decide +kernel
theorem dX3_doorsOf_5 : decode cX3_doorsOf 5 = .ok (.aload_n 0, 1) := by decide +kernel
theorem dX3_doorsOf_6 : decode cX3_doorsOf 6 = .ok (.getfield 44, 3) := by decide +kernel
theorem dX3_doorsOf_9 : decode cX3_doorsOf 9 = .ok (.if_icmp .ge 24, 3) := by decide +kernel
theorem dX3_doorsOf_12 : decode cX3_doorsOf 12 = .ok (.aload_n 0, 1) := by decide +kernel
theorem dX3_doorsOf_13 : decode cX3_doorsOf 13 = .ok (.iload_n 1, 1) := by decide +kernel
theorem dX3_doorsOf_14 : decode cX3_doorsOf 14 = .ok (.iload_n 3, 1) := by decide +kernel
theorem dX3_doorsOf_15 : decode cX3_doorsOf 15 = .ok (.invokevirtual 61, 3) := by decide +kernel
theorem dX3_doorsOf_18 : decode cX3_doorsOf 18 = .ok (.ifCond .eq 9, 3) := by decide +kernel
theorem dX3_doorsOf_21 : decode cX3_doorsOf 21 = .ok (.iload_n 2, 1) := by decide +kernel
theorem dX3_doorsOf_22 : decode cX3_doorsOf 22 = .ok (.iconst 1, 1) := by decide +kernel
theorem dX3_doorsOf_23 : decode cX3_doorsOf 23 = .ok (.iload_n 3, 1) := by decide +kernel
theorem dX3_doorsOf_24 : decode cX3_doorsOf 24 = .ok (.ishl, 1) := by decide +kernel
theorem dX3_doorsOf_25 : decode cX3_doorsOf 25 = .ok (.ior, 1) := by decide +kernel
theorem dX3_doorsOf_26 : decode cX3_doorsOf 26 = .ok (.istore_n 2, 1) := by decide +kernel
theorem dX3_doorsOf_27 : decode cX3_doorsOf 27 = .ok (.iinc 3 1, 3) := by decide +kernel
theorem dX3_doorsOf_30 : decode cX3_doorsOf 30 = .ok (.goto (-26), 3) := by decide +kernel
theorem dX3_doorsOf_33 : decode cX3_doorsOf 33 = .ok (.iload_n 2, 1) := by decide +kernel
theorem dX3_doorsOf_34 : decode cX3_doorsOf 34 = .ok (.ireturn, 1) := by decide +kernel
set_option maxRecDepth 20000 in
theorem ggX3_strayCount_X3_opensWith : GoodIn wsX3_strayCount wsX3_opensWith := goodIn_r _ [9, 10, 11, 12, 8, 13, 1, 4, 3, 14, 15, 16, 17, 18, 19, 20, 21, 22, 23, 24, 25, 26, 27, 28, 29, 30, 31, 32, 33, 34] (by decide +kernel) (by decide +kernel)
set_option maxRecDepth 20000 in
theorem gX3_strayCount_X3_opensWith : GoodIn wsX3_strayCount (wsV RX3 61 RX3 yX3_opensWith wsX3_opensWith) := goodIn_app (goodIn_of _ (by decide +kernel)) ggX3_strayCount_X3_opensWith
set_option maxRecDepth 20000 in
theorem ggX3_strayCount_X3_has : GoodIn wsX3_strayCount wsX3_has := goodIn_r _ [16] (by decide +kernel) (by decide +kernel)
set_option maxRecDepth 20000 in
theorem gX3_strayCount_X3_has : GoodIn wsX3_strayCount (va_wsS RX3 50 yX3_has wsX3_has) := goodIn_app (goodIn_of _ (by decide +kernel)) ggX3_strayCount_X3_has
theorem dX3_strayCount_0 : decode cX3_strayCount 0 = .ok (.iconst 0, 1) := by decide +kernel
theorem dX3_strayCount_1 : decode cX3_strayCount 1 = .ok (.istore_n 1, 1) := by decide +kernel
theorem dX3_strayCount_2 : decode cX3_strayCount 2 = .ok (.iconst 0, 1) := by decide +kernel
theorem dX3_strayCount_3 : decode cX3_strayCount 3 = .ok (.istore_n 2, 1) := by decide +kernel
theorem dX3_strayCount_4 : decode cX3_strayCount 4 = .ok (.iload_n 2, 1) := by decide +kernel
theorem dX3_strayCount_5 : decode cX3_strayCount 5 = .ok (.aload_n 0, 1) := by decide +kernel
theorem dX3_strayCount_6 : decode cX3_strayCount 6 = .ok (.getfield 41, 3) := by decide +kernel
theorem dX3_strayCount_9 : decode cX3_strayCount 9 = .ok (.if_icmp .ge 60, 3) := by decide +kernel
theorem dX3_strayCount_12 : decode cX3_strayCount 12 = .ok (.iconst 0, 1) := by decide +kernel
theorem dX3_strayCount_13 : decode cX3_strayCount 13 = .ok (.istore_n 3, 1) := by decide +kernel
theorem dX3_strayCount_14 : decode cX3_strayCount 14 = .ok (.iload_n 3, 1) := by decide +kernel
theorem dX3_strayCount_15 : decode cX3_strayCount 15 = .ok (.aload_n 0, 1) := by decide +kernel
theorem dX3_strayCount_16 : decode cX3_strayCount 16 = .ok (.getfield 44, 3) := by decide +kernel
theorem dX3_strayCount_19 : decode cX3_strayCount 19 = .ok (.if_icmp .ge 44, 3) := by decide +kernel
theorem dX3_strayCount_22 : decode cX3_strayCount 22 = .ok (.iload_n 1, 1) := by decide +kernel
theorem dX3_strayCount_23 : decode cX3_strayCount 23 = .ok (.aload_n 0, 1) := by decide +kernel
theorem dX3_strayCount_24 : decode cX3_strayCount 24 = .ok (.aload_n 0, 1) := by decide +kernel
theorem dX3_strayCount_25 : decode cX3_strayCount 25 = .ok (.getfield 9, 3) := by decide +kernel
theorem dX3_strayCount_28 : decode cX3_strayCount 28 = .ok (.iload_n 2, 1) := by decide +kernel
theorem dX3_strayCount_29 : decode cX3_strayCount 29 = .ok (.iaload, 1) := by decide +kernel
theorem dX3_strayCount_30 : decode cX3_strayCount 30 = .ok (.iload_n 3, 1) := by decide +kernel
theorem dX3_strayCount_31 : decode cX3_strayCount 31 = .ok (.invokevirtual 61, 3) := by decide +kernel
theorem dX3_strayCount_34 : decode cX3_strayCount 34 = .ok (.ifCond .eq 20, 3) := by decide +kernel
theorem dX3_strayCount_37 : decode cX3_strayCount 37 = .ok (.aload_n 0, 1) := by decide +kernel
theorem dX3_strayCount_38 : decode cX3_strayCount 38 = .ok (.getfield 13, 3) := by decide +kernel
theorem dX3_strayCount_41 : decode cX3_strayCount 41 = .ok (.iload_n 3, 1) := by decide +kernel
theorem dX3_strayCount_42 : decode cX3_strayCount 42 = .ok (.iaload, 1) := by decide +kernel
theorem dX3_strayCount_43 : decode cX3_strayCount 43 = .ok (.iload_n 2, 1) := by decide +kernel
theorem dX3_strayCount_44 : decode cX3_strayCount 44 = .ok (.invokestatic 50, 3) := by decide +kernel
theorem dX3_strayCount_47 : decode cX3_strayCount 47 = .ok (.ifCond .ne 7, 3) := by decide +kernel
theorem dX3_strayCount_50 : decode cX3_strayCount 50 = .ok (.iconst 1, 1) := by decide +kernel
theorem dX3_strayCount_51 : decode cX3_strayCount 51 = .ok (.goto 4, 3) := by decide +kernel
theorem dX3_strayCount_54 : decode cX3_strayCount 54 = .ok (.iconst 0, 1) := by decide +kernel
theorem dX3_strayCount_55 : decode cX3_strayCount 55 = .ok (.iadd, 1) := by decide +kernel
theorem dX3_strayCount_56 : decode cX3_strayCount 56 = .ok (.istore_n 1, 1) := by decide +kernel
theorem dX3_strayCount_57 : decode cX3_strayCount 57 = .ok (.iinc 3 1, 3) := by decide +kernel
theorem dX3_strayCount_60 : decode cX3_strayCount 60 = .ok (.goto (-46), 3) := by decide +kernel
theorem dX3_strayCount_63 : decode cX3_strayCount 63 = .ok (.iinc 2 1, 3) := by decide +kernel
theorem dX3_strayCount_66 : decode cX3_strayCount 66 = .ok (.goto (-62), 3) := by decide +kernel
theorem dX3_strayCount_69 : decode cX3_strayCount 69 = .ok (.iload_n 1, 1) := by decide +kernel
theorem dX3_strayCount_70 : decode cX3_strayCount 70 = .ok (.ireturn, 1) := by decide +kernel
set_option maxRecDepth 20000 in
theorem ggX3_addKey_X3_fail : GoodIn wsX3_addKey wsX3_fail := goodIn_r _ [8, 1, 9, 10, 11, 12, 13, 14, 15, 16, 17, 18, 19, 20, 21, 22, 23] (by decide +kernel) (by decide +kernel)
set_option maxRecDepth 20000 in
theorem gX3_addKey_X3_fail : GoodIn wsX3_addKey (wsV RX3 64 RX3 yX3_fail wsX3_fail) := goodIn_app (goodIn_of _ (by decide +kernel)) ggX3_addKey_X3_fail
theorem dX3_addKey_0 : decode cX3_addKey 0 = .ok (.aload_n 0, 1) := by decide +kernel
theorem dX3_addKey_1 : decode cX3_addKey 1 = .ok (.iconst 0, 1) := by decide +kernel
theorem dX3_addKey_2 : decode cX3_addKey 2 = .ok (.putfield 37, 3) := by decide +kernel
theorem dX3_addKey_5 : decode cX3_addKey 5 = .ok (.iload_n 1, 1) := by decide +kernel
theorem dX3_addKey_6 : decode cX3_addKey 6 = .ok (.ifCond .lt 10, 3) := by decide +kernel
theorem dX3_addKey_9 : decode cX3_addKey 9 = .ok (.iload_n 1, 1) := by decide +kernel
theorem dX3_addKey_10 : decode cX3_addKey 10 = .ok (.sipush 1024, 3) := by decide +kernel
theorem dX3_addKey_13 : decode cX3_addKey 13 = .ok (.if_icmp .lt 9, 3) := by decide +kernel
theorem dX3_addKey_16 : decode cX3_addKey 16 = .ok (.aload_n 0, 1) := by decide +kernel
theorem dX3_addKey_17 : decode cX3_addKey 17 = .ok (.iconst 1, 1) := by decide +kernel
theorem dX3_addKey_18 : decode cX3_addKey 18 = .ok (.invokevirtual 64, 3) := by decide +kernel
theorem dX3_addKey_21 : decode cX3_addKey 21 = .ok (.ireturn, 1) := by decide +kernel
theorem dX3_addKey_22 : decode cX3_addKey 22 = .ok (.aload_n 0, 1) := by decide +kernel
theorem dX3_addKey_23 : decode cX3_addKey 23 = .ok (.getfield 41, 3) := by decide +kernel
theorem dX3_addKey_26 : decode cX3_addKey 26 = .ok (.bipush 8, 2) := by decide +kernel
theorem dX3_addKey_28 : decode cX3_addKey 28 = .ok (.if_icmp .ne 9, 3) := by decide +kernel
theorem dX3_addKey_31 : decode cX3_addKey 31 = .ok (.aload_n 0, 1) := by decide +kernel
theorem dX3_addKey_32 : decode cX3_addKey 32 = .ok (.iconst 2, 1) := by decide +kernel
theorem dX3_addKey_33 : decode cX3_addKey 33 = .ok (.invokevirtual 64, 3) := by decide +kernel
theorem dX3_addKey_36 : decode cX3_addKey 36 = .ok (.ireturn, 1) := by decide +kernel
theorem dX3_addKey_37 : decode cX3_addKey 37 = .ok (.iconst 0, 1) := by decide +kernel
theorem dX3_addKey_38 : decode cX3_addKey 38 = .ok (.istore_n 2, 1) := by decide +kernel
theorem dX3_addKey_39 : decode cX3_addKey 39 = .ok (.iload_n 2, 1) := by decide +kernel
theorem dX3_addKey_40 : decode cX3_addKey 40 = .ok (.aload_n 0, 1) := by decide +kernel
theorem dX3_addKey_41 : decode cX3_addKey 41 = .ok (.getfield 41, 3) := by decide +kernel
theorem dX3_addKey_44 : decode cX3_addKey 44 = .ok (.if_icmp .ge 25, 3) := by decide +kernel
theorem dX3_addKey_47 : decode cX3_addKey 47 = .ok (.aload_n 0, 1) := by decide +kernel
theorem dX3_addKey_48 : decode cX3_addKey 48 = .ok (.getfield 9, 3) := by decide +kernel
theorem dX3_addKey_51 : decode cX3_addKey 51 = .ok (.iload_n 2, 1) := by decide +kernel
theorem dX3_addKey_52 : decode cX3_addKey 52 = .ok (.iaload, 1) := by decide +kernel
theorem dX3_addKey_53 : decode cX3_addKey 53 = .ok (.iload_n 1, 1) := by decide +kernel
theorem dX3_addKey_54 : decode cX3_addKey 54 = .ok (.if_icmp .ne 9, 3) := by decide +kernel
theorem dX3_addKey_57 : decode cX3_addKey 57 = .ok (.aload_n 0, 1) := by decide +kernel
theorem dX3_addKey_58 : decode cX3_addKey 58 = .ok (.iconst 2, 1) := by decide +kernel
theorem dX3_addKey_59 : decode cX3_addKey 59 = .ok (.invokevirtual 64, 3) := by decide +kernel
theorem dX3_addKey_62 : decode cX3_addKey 62 = .ok (.ireturn, 1) := by decide +kernel
theorem dX3_addKey_63 : decode cX3_addKey 63 = .ok (.iinc 2 1, 3) := by decide +kernel
theorem dX3_addKey_66 : decode cX3_addKey 66 = .ok (.goto (-27), 3) := by decide +kernel
theorem dX3_addKey_69 : decode cX3_addKey 69 = .ok (.aload_n 0, 1) := by decide +kernel
theorem dX3_addKey_70 : decode cX3_addKey 70 = .ok (.getfield 9, 3) := by decide +kernel
theorem dX3_addKey_73 : decode cX3_addKey 73 = .ok (.aload_n 0, 1) := by decide +kernel
theorem dX3_addKey_74 : decode cX3_addKey 74 = .ok (.getfield 41, 3) := by decide +kernel
theorem dX3_addKey_77 : decode cX3_addKey 77 = .ok (.iload_n 1, 1) := by decide +kernel
theorem dX3_addKey_78 : decode cX3_addKey 78 = .ok (.iastore, 1) := by decide +kernel
theorem dX3_addKey_79 : decode cX3_addKey 79 = .ok (.aload_n 0, 1) := by decide +kernel
theorem dX3_addKey_80 : decode cX3_addKey 80 = .ok (.dup, 1) := by decide +kernel
theorem dX3_addKey_81 : decode cX3_addKey 81 = .ok (.getfield 41, 3) := by decide +kernel
theorem dX3_addKey_84 : decode cX3_addKey 84 = .ok (.iconst 1, 1) := by decide +kernel
theorem dX3_addKey_85 : decode cX3_addKey 85 = .ok (.iadd, 1) := by decide +kernel
theorem dX3_addKey_86 : decode cX3_addKey 86 = .ok (.putfield 41, 3) := by decide +kernel
theorem dX3_addKey_89 : decode cX3_addKey 89 = .ok (.aload_n 0, 1) := by decide +kernel
theorem dX3_addKey_90 : decode cX3_addKey 90 = .ok (.getfield 41, 3) := by decide +kernel
theorem dX3_addKey_93 : decode cX3_addKey 93 = .ok (.iconst 1, 1) := by decide +kernel
theorem dX3_addKey_94 : decode cX3_addKey 94 = .ok (.isub, 1) := by decide +kernel
theorem dX3_addKey_95 : decode cX3_addKey 95 = .ok (.ireturn, 1) := by decide +kernel
set_option maxRecDepth 20000 in
theorem ggX3_addDoor_X3_areKeys : GoodIn wsX3_addDoor wsX3_areKeys := goodIn_r _ [9, 10, 37, 38, 39, 40, 41, 42, 43, 44, 45, 46, 47, 48, 49, 50, 51] (by decide +kernel) (by decide +kernel)
set_option maxRecDepth 20000 in
theorem gX3_addDoor_X3_areKeys : GoodIn wsX3_addDoor (wsV RX3 68 RX3 yX3_areKeys wsX3_areKeys) := goodIn_app (goodIn_of _ (by decide +kernel)) ggX3_addDoor_X3_areKeys
set_option maxRecDepth 20000 in
theorem ggX3_addDoor_X3_fail : GoodIn wsX3_addDoor wsX3_fail := goodIn_r _ [14, 1, 37, 38, 39, 40, 41, 42, 43, 44, 45, 46, 47, 48, 49, 50, 51] (by decide +kernel) (by decide +kernel)
set_option maxRecDepth 20000 in
theorem gX3_addDoor_X3_fail : GoodIn wsX3_addDoor (wsV RX3 64 RX3 yX3_fail wsX3_fail) := goodIn_app (goodIn_of _ (by decide +kernel)) ggX3_addDoor_X3_fail
set_option maxRecDepth 20000 in
theorem ggX3_addDoor_X3_allPins : GoodIn wsX3_addDoor wsX3_allPins := goodIn_r _ [18, 19, 20, 21, 8, 22, 10, 3, 23, 24, 25, 26, 27, 28, 29, 37, 38, 39, 40, 41, 42, 43, 44, 45, 46, 47, 48, 49, 50, 51] (by decide +kernel) (by decide +kernel)
set_option maxRecDepth 20000 in
theorem gX3_addDoor_X3_allPins : GoodIn wsX3_addDoor (wsV RX3 75 RX3 yX3_allPins wsX3_allPins) := goodIn_app (goodIn_of _ (by decide +kernel)) ggX3_addDoor_X3_allPins
set_option maxRecDepth 20000 in
theorem ggX3_addDoor_J6_bitCount_0f7a4 : GoodIn wsX3_addDoor wsJ6_bitCount_0f7a4 := goodIn_r _ [33, 34, 35, 36] (by decide +kernel) (by decide +kernel)
set_option maxRecDepth 20000 in
theorem gX3_addDoor_J6_bitCount_0f7a4 : GoodIn wsX3_addDoor (va_wsS RX3 78 yJ6_bitCount_0f7a4 wsJ6_bitCount_0f7a4) := goodIn_app (goodIn_of _ (by decide +kernel)) ggX3_addDoor_J6_bitCount_0f7a4
theorem dX3_addDoor_0 : decode cX3_addDoor 0 = .ok (.aload_n 0, 1) := by decide +kernel
theorem dX3_addDoor_1 : decode cX3_addDoor 1 = .ok (.iconst 0, 1) := by decide +kernel
theorem dX3_addDoor_2 : decode cX3_addDoor 2 = .ok (.putfield 37, 3) := by decide +kernel
theorem dX3_addDoor_5 : decode cX3_addDoor 5 = .ok (.aload_n 0, 1) := by decide +kernel
theorem dX3_addDoor_6 : decode cX3_addDoor 6 = .ok (.iload_n 1, 1) := by decide +kernel
theorem dX3_addDoor_7 : decode cX3_addDoor 7 = .ok (.invokevirtual 68, 3) := by decide +kernel
theorem dX3_addDoor_10 : decode cX3_addDoor 10 = .ok (.ifCond .ne 9, 3) := by decide +kernel
theorem dX3_addDoor_13 : decode cX3_addDoor 13 = .ok (.aload_n 0, 1) := by decide +kernel
theorem dX3_addDoor_14 : decode cX3_addDoor 14 = .ok (.iconst 1, 1) := by decide +kernel
theorem dX3_addDoor_15 : decode cX3_addDoor 15 = .ok (.invokevirtual 64, 3) := by decide +kernel
theorem dX3_addDoor_18 : decode cX3_addDoor 18 = .ok (.ireturn, 1) := by decide +kernel
theorem dX3_addDoor_19 : decode cX3_addDoor 19 = .ok (.aload_n 0, 1) := by decide +kernel
theorem dX3_addDoor_20 : decode cX3_addDoor 20 = .ok (.getfield 44, 3) := by decide +kernel
theorem dX3_addDoor_23 : decode cX3_addDoor 23 = .ok (.bipush 8, 2) := by decide +kernel
theorem dX3_addDoor_25 : decode cX3_addDoor 25 = .ok (.if_icmp .ne 9, 3) := by decide +kernel
theorem dX3_addDoor_28 : decode cX3_addDoor 28 = .ok (.aload_n 0, 1) := by decide +kernel
theorem dX3_addDoor_29 : decode cX3_addDoor 29 = .ok (.iconst 2, 1) := by decide +kernel
theorem dX3_addDoor_30 : decode cX3_addDoor 30 = .ok (.invokevirtual 64, 3) := by decide +kernel
theorem dX3_addDoor_33 : decode cX3_addDoor 33 = .ok (.ireturn, 1) := by decide +kernel
theorem dX3_addDoor_34 : decode cX3_addDoor 34 = .ok (.aload_n 0, 1) := by decide +kernel
theorem dX3_addDoor_35 : decode cX3_addDoor 35 = .ok (.getfield 13, 3) := by decide +kernel
theorem dX3_addDoor_38 : decode cX3_addDoor 38 = .ok (.aload_n 0, 1) := by decide +kernel
theorem dX3_addDoor_39 : decode cX3_addDoor 39 = .ok (.getfield 44, 3) := by decide +kernel
theorem dX3_addDoor_42 : decode cX3_addDoor 42 = .ok (.iload_n 1, 1) := by decide +kernel
theorem dX3_addDoor_43 : decode cX3_addDoor 43 = .ok (.iastore, 1) := by decide +kernel
theorem dX3_addDoor_44 : decode cX3_addDoor 44 = .ok (.aload_n 0, 1) := by decide +kernel
theorem dX3_addDoor_45 : decode cX3_addDoor 45 = .ok (.dup, 1) := by decide +kernel
theorem dX3_addDoor_46 : decode cX3_addDoor 46 = .ok (.getfield 44, 3) := by decide +kernel
theorem dX3_addDoor_49 : decode cX3_addDoor 49 = .ok (.iconst 1, 1) := by decide +kernel
theorem dX3_addDoor_50 : decode cX3_addDoor 50 = .ok (.iadd, 1) := by decide +kernel
theorem dX3_addDoor_51 : decode cX3_addDoor 51 = .ok (.putfield 44, 3) := by decide +kernel
theorem dX3_addDoor_54 : decode cX3_addDoor 54 = .ok (.aload_n 0, 1) := by decide +kernel
theorem dX3_addDoor_55 : decode cX3_addDoor 55 = .ok (.dup, 1) := by decide +kernel
theorem dX3_addDoor_56 : decode cX3_addDoor 56 = .ok (.getfield 72, 3) := by decide +kernel
theorem dX3_addDoor_59 : decode cX3_addDoor 59 = .ok (.aload_n 0, 1) := by decide +kernel
theorem dX3_addDoor_60 : decode cX3_addDoor 60 = .ok (.aload_n 0, 1) := by decide +kernel
theorem dX3_addDoor_61 : decode cX3_addDoor 61 = .ok (.getfield 44, 3) := by decide +kernel
theorem dX3_addDoor_64 : decode cX3_addDoor 64 = .ok (.iconst 1, 1) := by decide +kernel
theorem dX3_addDoor_65 : decode cX3_addDoor 65 = .ok (.isub, 1) := by decide +kernel
theorem dX3_addDoor_66 : decode cX3_addDoor 66 = .ok (.invokevirtual 75, 3) := by decide +kernel
theorem dX3_addDoor_69 : decode cX3_addDoor 69 = .ok (.invokestatic 78, 3) := by decide +kernel
theorem dX3_addDoor_72 : decode cX3_addDoor 72 = .ok (.iadd, 1) := by decide +kernel
theorem dX3_addDoor_73 : decode cX3_addDoor 73 = .ok (.putfield 72, 3) := by decide +kernel
theorem dX3_addDoor_76 : decode cX3_addDoor 76 = .ok (.aload_n 0, 1) := by decide +kernel
theorem dX3_addDoor_77 : decode cX3_addDoor 77 = .ok (.getfield 44, 3) := by decide +kernel
theorem dX3_addDoor_80 : decode cX3_addDoor 80 = .ok (.iconst 1, 1) := by decide +kernel
theorem dX3_addDoor_81 : decode cX3_addDoor 81 = .ok (.isub, 1) := by decide +kernel
theorem dX3_addDoor_82 : decode cX3_addDoor 82 = .ok (.ireturn, 1) := by decide +kernel
set_option maxRecDepth 20000 in
theorem ggX3_setRights_X3_isDoor : GoodIn wsX3_setRights wsX3_isDoor := goodIn_r _ [8, 9, 41, 42, 43, 44, 45, 46, 47, 48, 49, 50, 51, 52, 53, 54, 55] (by decide +kernel) (by decide +kernel)
set_option maxRecDepth 20000 in
theorem gX3_setRights_X3_isDoor : GoodIn wsX3_setRights (wsV RX3 83 RX3 yX3_isDoor wsX3_isDoor) := goodIn_app (goodIn_of _ (by decide +kernel)) ggX3_setRights_X3_isDoor
set_option maxRecDepth 20000 in
theorem ggX3_setRights_X3_fail : GoodIn wsX3_setRights wsX3_fail := goodIn_r _ [13, 1, 41, 42, 43, 44, 45, 46, 47, 48, 49, 50, 51, 52, 53, 54, 55] (by decide +kernel) (by decide +kernel)
set_option maxRecDepth 20000 in
theorem gX3_setRights_X3_fail : GoodIn wsX3_setRights (wsV RX3 64 RX3 yX3_fail wsX3_fail) := goodIn_app (goodIn_of _ (by decide +kernel)) ggX3_setRights_X3_fail
set_option maxRecDepth 20000 in
theorem ggX3_setRights_X3_areKeys : GoodIn wsX3_setRights wsX3_areKeys := goodIn_r _ [17, 18, 41, 42, 43, 44, 45, 46, 47, 48, 49, 50, 51, 52, 53, 54, 55] (by decide +kernel) (by decide +kernel)
set_option maxRecDepth 20000 in
theorem gX3_setRights_X3_areKeys : GoodIn wsX3_setRights (wsV RX3 68 RX3 yX3_areKeys wsX3_areKeys) := goodIn_app (goodIn_of _ (by decide +kernel)) ggX3_setRights_X3_areKeys
set_option maxRecDepth 20000 in
theorem ggX3_setRights_X3_allPins : GoodIn wsX3_setRights wsX3_allPins := goodIn_r _ [22, 23, 24, 25, 7, 26, 18, 2, 27, 28, 29, 30, 31, 32, 33, 41, 42, 43, 44, 45, 46, 47, 48, 49, 50, 51, 52, 53, 54, 55] (by decide +kernel) (by decide +kernel)
set_option maxRecDepth 20000 in
theorem gX3_setRights_X3_allPins : GoodIn wsX3_setRights (wsV RX3 75 RX3 yX3_allPins wsX3_allPins) := goodIn_app (goodIn_of _ (by decide +kernel)) ggX3_setRights_X3_allPins
set_option maxRecDepth 20000 in
theorem ggX3_setRights_J6_bitCount_0f7a4 : GoodIn wsX3_setRights wsJ6_bitCount_0f7a4 := goodIn_r _ [37, 38, 39, 40] (by decide +kernel) (by decide +kernel)
set_option maxRecDepth 20000 in
theorem gX3_setRights_J6_bitCount_0f7a4 : GoodIn wsX3_setRights (va_wsS RX3 78 yJ6_bitCount_0f7a4 wsJ6_bitCount_0f7a4) := goodIn_app (goodIn_of _ (by decide +kernel)) ggX3_setRights_J6_bitCount_0f7a4
theorem dX3_setRights_0 : decode cX3_setRights 0 = .ok (.aload_n 0, 1) := by decide +kernel
theorem dX3_setRights_1 : decode cX3_setRights 1 = .ok (.iconst 0, 1) := by decide +kernel
theorem dX3_setRights_2 : decode cX3_setRights 2 = .ok (.putfield 37, 3) := by decide +kernel
theorem dX3_setRights_5 : decode cX3_setRights 5 = .ok (.aload_n 0, 1) := by decide +kernel
theorem dX3_setRights_6 : decode cX3_setRights 6 = .ok (.iload_n 1, 1) := by decide +kernel
theorem dX3_setRights_7 : decode cX3_setRights 7 = .ok (.invokevirtual 83, 3) := by decide +kernel
theorem dX3_setRights_10 : decode cX3_setRights 10 = .ok (.ifCond .ne 9, 3) := by decide +kernel
theorem dX3_setRights_13 : decode cX3_setRights 13 = .ok (.aload_n 0, 1) := by decide +kernel
theorem dX3_setRights_14 : decode cX3_setRights 14 = .ok (.iconst 1, 1) := by decide +kernel
theorem dX3_setRights_15 : decode cX3_setRights 15 = .ok (.invokevirtual 64, 3) := by decide +kernel
theorem dX3_setRights_18 : decode cX3_setRights 18 = .ok (.ireturn, 1) := by decide +kernel
theorem dX3_setRights_19 : decode cX3_setRights 19 = .ok (.aload_n 0, 1) := by decide +kernel
theorem dX3_setRights_20 : decode cX3_setRights 20 = .ok (.iload_n 2, 1) := by decide +kernel
theorem dX3_setRights_21 : decode cX3_setRights 21 = .ok (.invokevirtual 68, 3) := by decide +kernel
theorem dX3_setRights_24 : decode cX3_setRights 24 = .ok (.ifCond .ne 9, 3) := by decide +kernel
theorem dX3_setRights_27 : decode cX3_setRights 27 = .ok (.aload_n 0, 1) := by decide +kernel
theorem dX3_setRights_28 : decode cX3_setRights 28 = .ok (.iconst 2, 1) := by decide +kernel
theorem dX3_setRights_29 : decode cX3_setRights 29 = .ok (.invokevirtual 64, 3) := by decide +kernel
theorem dX3_setRights_32 : decode cX3_setRights 32 = .ok (.ireturn, 1) := by decide +kernel
theorem dX3_setRights_33 : decode cX3_setRights 33 = .ok (.aload_n 0, 1) := by decide +kernel
theorem dX3_setRights_34 : decode cX3_setRights 34 = .ok (.getfield 13, 3) := by decide +kernel
theorem dX3_setRights_37 : decode cX3_setRights 37 = .ok (.iload_n 1, 1) := by decide +kernel
theorem dX3_setRights_38 : decode cX3_setRights 38 = .ok (.iaload, 1) := by decide +kernel
theorem dX3_setRights_39 : decode cX3_setRights 39 = .ok (.istore_n 3, 1) := by decide +kernel
theorem dX3_setRights_40 : decode cX3_setRights 40 = .ok (.aload_n 0, 1) := by decide +kernel
theorem dX3_setRights_41 : decode cX3_setRights 41 = .ok (.iload_n 1, 1) := by decide +kernel
theorem dX3_setRights_42 : decode cX3_setRights 42 = .ok (.invokevirtual 75, 3) := by decide +kernel
theorem dX3_setRights_45 : decode cX3_setRights 45 = .ok (.istore 4, 2) := by decide +kernel
theorem dX3_setRights_47 : decode cX3_setRights 47 = .ok (.aload_n 0, 1) := by decide +kernel
theorem dX3_setRights_48 : decode cX3_setRights 48 = .ok (.getfield 13, 3) := by decide +kernel
theorem dX3_setRights_51 : decode cX3_setRights 51 = .ok (.iload_n 1, 1) := by decide +kernel
theorem dX3_setRights_52 : decode cX3_setRights 52 = .ok (.iload_n 2, 1) := by decide +kernel
theorem dX3_setRights_53 : decode cX3_setRights 53 = .ok (.iastore, 1) := by decide +kernel
theorem dX3_setRights_54 : decode cX3_setRights 54 = .ok (.aload_n 0, 1) := by decide +kernel
theorem dX3_setRights_55 : decode cX3_setRights 55 = .ok (.dup, 1) := by decide +kernel
theorem dX3_setRights_56 : decode cX3_setRights 56 = .ok (.getfield 72, 3) := by decide +kernel
theorem dX3_setRights_59 : decode cX3_setRights 59 = .ok (.iload 4, 2) := by decide +kernel
theorem dX3_setRights_61 : decode cX3_setRights 61 = .ok (.aload_n 0, 1) := by decide +kernel
theorem dX3_setRights_62 : decode cX3_setRights 62 = .ok (.iload_n 1, 1) := by decide +kernel
theorem dX3_setRights_63 : decode cX3_setRights 63 = .ok (.invokevirtual 75, 3) := by decide +kernel
theorem dX3_setRights_66 : decode cX3_setRights 66 = .ok (.ixor, 1) := by decide +kernel
theorem dX3_setRights_67 : decode cX3_setRights 67 = .ok (.invokestatic 78, 3) := by decide +kernel
theorem dX3_setRights_70 : decode cX3_setRights 70 = .ok (.iadd, 1) := by decide +kernel
theorem dX3_setRights_71 : decode cX3_setRights 71 = .ok (.putfield 72, 3) := by decide +kernel
theorem dX3_setRights_74 : decode cX3_setRights 74 = .ok (.iload_n 3, 1) := by decide +kernel
theorem dX3_setRights_75 : decode cX3_setRights 75 = .ok (.ireturn, 1) := by decide +kernel
theorem dX3_keyCount_0 : decode cX3_keyCount 0 = .ok (.aload_n 0, 1) := by decide +kernel
theorem dX3_keyCount_1 : decode cX3_keyCount 1 = .ok (.iconst 0, 1) := by decide +kernel
theorem dX3_keyCount_2 : decode cX3_keyCount 2 = .ok (.putfield 37, 3) := by decide +kernel
theorem dX3_keyCount_5 : decode cX3_keyCount 5 = .ok (.aload_n 0, 1) := by decide +kernel
theorem dX3_keyCount_6 : decode cX3_keyCount 6 = .ok (.getfield 41, 3) := by decide +kernel
theorem dX3_keyCount_9 : decode cX3_keyCount 9 = .ok (.ireturn, 1) := by decide +kernel
theorem dX3_doorCount_0 : decode cX3_doorCount 0 = .ok (.aload_n 0, 1) := by decide +kernel
theorem dX3_doorCount_1 : decode cX3_doorCount 1 = .ok (.iconst 0, 1) := by decide +kernel
theorem dX3_doorCount_2 : decode cX3_doorCount 2 = .ok (.putfield 37, 3) := by decide +kernel
theorem dX3_doorCount_5 : decode cX3_doorCount 5 = .ok (.aload_n 0, 1) := by decide +kernel
theorem dX3_doorCount_6 : decode cX3_doorCount 6 = .ok (.getfield 44, 3) := by decide +kernel
theorem dX3_doorCount_9 : decode cX3_doorCount 9 = .ok (.ireturn, 1) := by decide +kernel
set_option maxRecDepth 20000 in
theorem ggX3_code_X3_isKey : GoodIn wsX3_code wsX3_isKey := goodIn_r _ [7, 8, 13, 14, 15, 16, 17, 18, 19, 20, 21, 22, 23, 24, 25, 26, 27] (by decide +kernel) (by decide +kernel)
set_option maxRecDepth 20000 in
theorem gX3_code_X3_isKey : GoodIn wsX3_code (wsV RX3 86 RX3 yX3_isKey wsX3_isKey) := goodIn_app (goodIn_of _ (by decide +kernel)) ggX3_code_X3_isKey
set_option maxRecDepth 20000 in
theorem ggX3_code_X3_fail : GoodIn wsX3_code wsX3_fail := goodIn_r _ [12, 1, 13, 14, 15, 16, 17, 18, 19, 20, 21, 22, 23, 24, 25, 26, 27] (by decide +kernel) (by decide +kernel)
set_option maxRecDepth 20000 in
theorem gX3_code_X3_fail : GoodIn wsX3_code (wsV RX3 64 RX3 yX3_fail wsX3_fail) := goodIn_app (goodIn_of _ (by decide +kernel)) ggX3_code_X3_fail
theorem dX3_code_0 : decode cX3_code 0 = .ok (.aload_n 0, 1) := by decide +kernel
theorem dX3_code_1 : decode cX3_code 1 = .ok (.iconst 0, 1) := by decide +kernel
theorem dX3_code_2 : decode cX3_code 2 = .ok (.putfield 37, 3) := by decide +kernel
theorem dX3_code_5 : decode cX3_code 5 = .ok (.aload_n 0, 1) := by decide +kernel
theorem dX3_code_6 : decode cX3_code 6 = .ok (.iload_n 1, 1) := by decide +kernel
theorem dX3_code_7 : decode cX3_code 7 = .ok (.invokevirtual 86, 3) := by decide +kernel
theorem dX3_code_10 : decode cX3_code 10 = .ok (.ifCond .eq 12, 3) := by decide +kernel
theorem dX3_code_13 : decode cX3_code 13 = .ok (.aload_n 0, 1) := by decide +kernel
theorem dX3_code_14 : decode cX3_code 14 = .ok (.getfield 9, 3) := by decide +kernel
theorem dX3_code_17 : decode cX3_code 17 = .ok (.iload_n 1, 1) := by decide +kernel
theorem dX3_code_18 : decode cX3_code 18 = .ok (.iaload, 1) := by decide +kernel
theorem dX3_code_19 : decode cX3_code 19 = .ok (.goto 8, 3) := by decide +kernel
theorem dX3_code_22 : decode cX3_code 22 = .ok (.aload_n 0, 1) := by decide +kernel
theorem dX3_code_23 : decode cX3_code 23 = .ok (.iconst 1, 1) := by decide +kernel
theorem dX3_code_24 : decode cX3_code 24 = .ok (.invokevirtual 64, 3) := by decide +kernel
theorem dX3_code_27 : decode cX3_code 27 = .ok (.ireturn, 1) := by decide +kernel
set_option maxRecDepth 20000 in
theorem ggX3_pins_X3_isDoor : GoodIn wsX3_pins wsX3_isDoor := goodIn_r _ [6, 7, 25, 26, 27, 28, 29, 30, 31, 32, 33, 34, 35, 36, 37, 38, 39] (by decide +kernel) (by decide +kernel)
set_option maxRecDepth 20000 in
theorem gX3_pins_X3_isDoor : GoodIn wsX3_pins (wsV RX3 83 RX3 yX3_isDoor wsX3_isDoor) := goodIn_app (goodIn_of _ (by decide +kernel)) ggX3_pins_X3_isDoor
set_option maxRecDepth 20000 in
theorem ggX3_pins_X3_pinsOf : GoodIn wsX3_pins wsX3_pinsOf := goodIn_r _ [11, 12, 13, 14, 15, 16, 5, 17, 18, 19, 20, 25, 26, 27, 28, 29, 30, 31, 32, 33, 34, 35, 36, 37, 38, 39] (by decide +kernel) (by decide +kernel)
set_option maxRecDepth 20000 in
theorem gX3_pins_X3_pinsOf : GoodIn wsX3_pins (wsV RX3 58 RX3 yX3_pinsOf wsX3_pinsOf) := goodIn_app (goodIn_of _ (by decide +kernel)) ggX3_pins_X3_pinsOf
set_option maxRecDepth 20000 in
theorem ggX3_pins_X3_fail : GoodIn wsX3_pins wsX3_fail := goodIn_r _ [24, 1, 25, 26, 27, 28, 29, 30, 31, 32, 33, 34, 35, 36, 37, 38, 39] (by decide +kernel) (by decide +kernel)
set_option maxRecDepth 20000 in
theorem gX3_pins_X3_fail : GoodIn wsX3_pins (wsV RX3 64 RX3 yX3_fail wsX3_fail) := goodIn_app (goodIn_of _ (by decide +kernel)) ggX3_pins_X3_fail
theorem dX3_pins_0 : decode cX3_pins 0 = .ok (.aload_n 0, 1) := by decide +kernel
theorem dX3_pins_1 : decode cX3_pins 1 = .ok (.iconst 0, 1) := by decide +kernel
theorem dX3_pins_2 : decode cX3_pins 2 = .ok (.putfield 37, 3) := by decide +kernel
theorem dX3_pins_5 : decode cX3_pins 5 = .ok (.aload_n 0, 1) := by decide +kernel
theorem dX3_pins_6 : decode cX3_pins 6 = .ok (.iload_n 1, 1) := by decide +kernel
theorem dX3_pins_7 : decode cX3_pins 7 = .ok (.invokevirtual 83, 3) := by decide +kernel
theorem dX3_pins_10 : decode cX3_pins 10 = .ok (.ifCond .eq 21, 3) := by decide +kernel
theorem dX3_pins_13 : decode cX3_pins 13 = .ok (.iload_n 2, 1) := by decide +kernel
theorem dX3_pins_14 : decode cX3_pins 14 = .ok (.ifCond .lt 17, 3) := by decide +kernel
theorem dX3_pins_17 : decode cX3_pins 17 = .ok (.iload_n 2, 1) := by decide +kernel
theorem dX3_pins_18 : decode cX3_pins 18 = .ok (.iconst 5, 1) := by decide +kernel
theorem dX3_pins_19 : decode cX3_pins 19 = .ok (.if_icmp .ge 12, 3) := by decide +kernel
theorem dX3_pins_22 : decode cX3_pins 22 = .ok (.aload_n 0, 1) := by decide +kernel
theorem dX3_pins_23 : decode cX3_pins 23 = .ok (.iload_n 1, 1) := by decide +kernel
theorem dX3_pins_24 : decode cX3_pins 24 = .ok (.iload_n 2, 1) := by decide +kernel
theorem dX3_pins_25 : decode cX3_pins 25 = .ok (.invokevirtual 58, 3) := by decide +kernel
theorem dX3_pins_28 : decode cX3_pins 28 = .ok (.goto 8, 3) := by decide +kernel
theorem dX3_pins_31 : decode cX3_pins 31 = .ok (.aload_n 0, 1) := by decide +kernel
theorem dX3_pins_32 : decode cX3_pins 32 = .ok (.iconst 1, 1) := by decide +kernel
theorem dX3_pins_33 : decode cX3_pins 33 = .ok (.invokevirtual 64, 3) := by decide +kernel
theorem dX3_pins_36 : decode cX3_pins 36 = .ok (.ireturn, 1) := by decide +kernel
set_option maxRecDepth 20000 in
theorem ggX3_opens_X3_isKey : GoodIn wsX3_opens wsX3_isKey := goodIn_r _ [7, 8, 29, 30, 31, 32, 33, 34, 35, 36, 37, 38, 39, 40, 41, 42, 43] (by decide +kernel) (by decide +kernel)
set_option maxRecDepth 20000 in
theorem gX3_opens_X3_isKey : GoodIn wsX3_opens (wsV RX3 86 RX3 yX3_isKey wsX3_isKey) := goodIn_app (goodIn_of _ (by decide +kernel)) ggX3_opens_X3_isKey
set_option maxRecDepth 20000 in
theorem ggX3_opens_X3_isDoor : GoodIn wsX3_opens wsX3_isDoor := goodIn_r _ [12, 13, 29, 30, 31, 32, 33, 34, 35, 36, 37, 38, 39, 40, 41, 42, 43] (by decide +kernel) (by decide +kernel)
set_option maxRecDepth 20000 in
theorem gX3_opens_X3_isDoor : GoodIn wsX3_opens (wsV RX3 83 RX3 yX3_isDoor wsX3_isDoor) := goodIn_app (goodIn_of _ (by decide +kernel)) ggX3_opens_X3_isDoor
set_option maxRecDepth 20000 in
theorem ggX3_opens_X3_opensWith : GoodIn wsX3_opens wsX3_opensWith := goodIn_r _ [17, 18, 19, 20, 6, 21, 8, 22, 2, 23, 24, 25, 26, 27, 28, 29, 30, 31, 32, 33, 34, 35, 36, 37, 38, 39, 40, 41, 42, 43] (by decide +kernel) (by decide +kernel)
set_option maxRecDepth 20000 in
theorem gX3_opens_X3_opensWith : GoodIn wsX3_opens (wsV RX3 61 RX3 yX3_opensWith wsX3_opensWith) := goodIn_app (goodIn_of _ (by decide +kernel)) ggX3_opens_X3_opensWith
theorem dX3_opens_0 : decode cX3_opens 0 = .ok (.aload_n 0, 1) := by decide +kernel
theorem dX3_opens_1 : decode cX3_opens 1 = .ok (.aload_n 0, 1) := by decide +kernel
theorem dX3_opens_2 : decode cX3_opens 2 = .ok (.iload_n 1, 1) := by decide +kernel
theorem dX3_opens_3 : decode cX3_opens 3 = .ok (.invokevirtual 86, 3) := by decide +kernel
theorem dX3_opens_6 : decode cX3_opens 6 = .ok (.ifCond .eq 15, 3) := by decide +kernel
theorem dX3_opens_9 : decode cX3_opens 9 = .ok (.aload_n 0, 1) := by decide +kernel
theorem dX3_opens_10 : decode cX3_opens 10 = .ok (.iload_n 2, 1) := by decide +kernel
theorem dX3_opens_11 : decode cX3_opens 11 = .ok (.invokevirtual 83, 3) := by decide +kernel
theorem dX3_opens_14 : decode cX3_opens 14 = .ok (.ifCond .eq 7, 3) := by decide +kernel
theorem dX3_opens_17 : decode cX3_opens 17 = .ok (.iconst 0, 1) := by decide +kernel
theorem dX3_opens_18 : decode cX3_opens 18 = .ok (.goto 4, 3) := by decide +kernel
theorem dX3_opens_21 : decode cX3_opens 21 = .ok (.iconst 1, 1) := by decide +kernel
theorem dX3_opens_22 : decode cX3_opens 22 = .ok (.putfield 37, 3) := by decide +kernel
theorem dX3_opens_25 : decode cX3_opens 25 = .ok (.aload_n 0, 1) := by decide +kernel
theorem dX3_opens_26 : decode cX3_opens 26 = .ok (.getfield 37, 3) := by decide +kernel
theorem dX3_opens_29 : decode cX3_opens 29 = .ok (.ifCond .ne 21, 3) := by decide +kernel
theorem dX3_opens_32 : decode cX3_opens 32 = .ok (.aload_n 0, 1) := by decide +kernel
theorem dX3_opens_33 : decode cX3_opens 33 = .ok (.aload_n 0, 1) := by decide +kernel
theorem dX3_opens_34 : decode cX3_opens 34 = .ok (.getfield 9, 3) := by decide +kernel
theorem dX3_opens_37 : decode cX3_opens 37 = .ok (.iload_n 1, 1) := by decide +kernel
theorem dX3_opens_38 : decode cX3_opens 38 = .ok (.iaload, 1) := by decide +kernel
theorem dX3_opens_39 : decode cX3_opens 39 = .ok (.iload_n 2, 1) := by decide +kernel
theorem dX3_opens_40 : decode cX3_opens 40 = .ok (.invokevirtual 61, 3) := by decide +kernel
theorem dX3_opens_43 : decode cX3_opens 43 = .ok (.ifCond .eq 7, 3) := by decide +kernel
theorem dX3_opens_46 : decode cX3_opens 46 = .ok (.iconst 1, 1) := by decide +kernel
theorem dX3_opens_47 : decode cX3_opens 47 = .ok (.goto 4, 3) := by decide +kernel
theorem dX3_opens_50 : decode cX3_opens 50 = .ok (.iconst 0, 1) := by decide +kernel
theorem dX3_opens_51 : decode cX3_opens 51 = .ok (.ireturn, 1) := by decide +kernel
set_option maxRecDepth 20000 in
theorem ggX3_openers_X3_isDoor : GoodIn wsX3_openers wsX3_isDoor := goodIn_r _ [8, 9, 29, 30, 31, 32, 33, 34, 35, 36, 37, 38, 39, 40, 41, 42, 43] (by decide +kernel) (by decide +kernel)
set_option maxRecDepth 20000 in
theorem gX3_openers_X3_isDoor : GoodIn wsX3_openers (wsV RX3 83 RX3 yX3_isDoor wsX3_isDoor) := goodIn_app (goodIn_of _ (by decide +kernel)) ggX3_openers_X3_isDoor
set_option maxRecDepth 20000 in
theorem ggX3_openers_X3_fail : GoodIn wsX3_openers wsX3_fail := goodIn_r _ [13, 1, 29, 30, 31, 32, 33, 34, 35, 36, 37, 38, 39, 40, 41, 42, 43] (by decide +kernel) (by decide +kernel)
set_option maxRecDepth 20000 in
theorem gX3_openers_X3_fail : GoodIn wsX3_openers (wsV RX3 64 RX3 yX3_fail wsX3_fail) := goodIn_app (goodIn_of _ (by decide +kernel)) ggX3_openers_X3_fail
set_option maxRecDepth 20000 in
theorem ggX3_openers_X3_opensWith : GoodIn wsX3_openers wsX3_opensWith := goodIn_r _ [17, 18, 19, 20, 7, 21, 2, 22, 3, 23, 24, 25, 26, 27, 28, 29, 30, 31, 32, 33, 34, 35, 36, 37, 38, 39, 40, 41, 42, 43] (by decide +kernel) (by decide +kernel)
set_option maxRecDepth 20000 in
theorem gX3_openers_X3_opensWith : GoodIn wsX3_openers (wsV RX3 61 RX3 yX3_opensWith wsX3_opensWith) := goodIn_app (goodIn_of _ (by decide +kernel)) ggX3_openers_X3_opensWith
theorem dX3_openers_0 : decode cX3_openers 0 = .ok (.aload_n 0, 1) := by decide +kernel
theorem dX3_openers_1 : decode cX3_openers 1 = .ok (.iconst 0, 1) := by decide +kernel
theorem dX3_openers_2 : decode cX3_openers 2 = .ok (.putfield 37, 3) := by decide +kernel
theorem dX3_openers_5 : decode cX3_openers 5 = .ok (.aload_n 0, 1) := by decide +kernel
theorem dX3_openers_6 : decode cX3_openers 6 = .ok (.iload_n 1, 1) := by decide +kernel
theorem dX3_openers_7 : decode cX3_openers 7 = .ok (.invokevirtual 83, 3) := by decide +kernel
theorem dX3_openers_10 : decode cX3_openers 10 = .ok (.ifCond .ne 9, 3) := by decide +kernel
theorem dX3_openers_13 : decode cX3_openers 13 = .ok (.aload_n 0, 1) := by decide +kernel
theorem dX3_openers_14 : decode cX3_openers 14 = .ok (.iconst 1, 1) := by decide +kernel
theorem dX3_openers_15 : decode cX3_openers 15 = .ok (.invokevirtual 64, 3) := by decide +kernel
theorem dX3_openers_18 : decode cX3_openers 18 = .ok (.ireturn, 1) := by decide +kernel
theorem dX3_openers_19 : decode cX3_openers 19 = .ok (.iconst 0, 1) := by decide +kernel
theorem dX3_openers_20 : decode cX3_openers 20 = .ok (.istore_n 2, 1) := by decide +kernel
theorem dX3_openers_21 : decode cX3_openers 21 = .ok (.iconst 0, 1) := by decide +kernel
theorem dX3_openers_22 : decode cX3_openers 22 = .ok (.istore_n 3, 1) := by decide +kernel
theorem dX3_openers_23 : decode cX3_openers 23 = .ok (.iload_n 3, 1) := by decide +kernel
theorem dX3_openers_24 : decode cX3_openers 24 = .ok (.aload_n 0, 1) := by decide +kernel
theorem dX3_openers_25 : decode cX3_openers 25 = .ok (.getfield 41, 3) := by decide +kernel
theorem dX3_openers_28 : decode cX3_openers 28 = .ok (.if_icmp .ge 29, 3) := by decide +kernel
theorem dX3_openers_31 : decode cX3_openers 31 = .ok (.aload_n 0, 1) := by decide +kernel
theorem dX3_openers_32 : decode cX3_openers 32 = .ok (.aload_n 0, 1) := by decide +kernel
theorem dX3_openers_33 : decode cX3_openers 33 = .ok (.getfield 9, 3) := by decide +kernel
theorem dX3_openers_36 : decode cX3_openers 36 = .ok (.iload_n 3, 1) := by decide +kernel
theorem dX3_openers_37 : decode cX3_openers 37 = .ok (.iaload, 1) := by decide +kernel
theorem dX3_openers_38 : decode cX3_openers 38 = .ok (.iload_n 1, 1) := by decide +kernel
theorem dX3_openers_39 : decode cX3_openers 39 = .ok (.invokevirtual 61, 3) := by decide +kernel
theorem dX3_openers_42 : decode cX3_openers 42 = .ok (.ifCond .eq 9, 3) := by decide +kernel
theorem dX3_openers_45 : decode cX3_openers 45 = .ok (.iload_n 2, 1) := by decide +kernel
theorem dX3_openers_46 : decode cX3_openers 46 = .ok (.iconst 1, 1) := by decide +kernel
theorem dX3_openers_47 : decode cX3_openers 47 = .ok (.iload_n 3, 1) := by decide +kernel
theorem dX3_openers_48 : decode cX3_openers 48 = .ok (.ishl, 1) := by decide +kernel
theorem dX3_openers_49 : decode cX3_openers 49 = .ok (.ior, 1) := by decide +kernel
theorem dX3_openers_50 : decode cX3_openers 50 = .ok (.istore_n 2, 1) := by decide +kernel
theorem dX3_openers_51 : decode cX3_openers 51 = .ok (.iinc 3 1, 3) := by decide +kernel
theorem dX3_openers_54 : decode cX3_openers 54 = .ok (.goto (-31), 3) := by decide +kernel
theorem dX3_openers_57 : decode cX3_openers 57 = .ok (.iload_n 2, 1) := by decide +kernel
theorem dX3_openers_58 : decode cX3_openers 58 = .ok (.ireturn, 1) := by decide +kernel
set_option maxRecDepth 20000 in
theorem ggX3_doors_X3_isKey : GoodIn wsX3_doors wsX3_isKey := goodIn_r _ [7, 8, 33, 34, 35, 36, 37, 38, 39, 40, 41, 42, 43, 44, 45, 46, 47] (by decide +kernel) (by decide +kernel)
set_option maxRecDepth 20000 in
theorem gX3_doors_X3_isKey : GoodIn wsX3_doors (wsV RX3 86 RX3 yX3_isKey wsX3_isKey) := goodIn_app (goodIn_of _ (by decide +kernel)) ggX3_doors_X3_isKey
set_option maxRecDepth 20000 in
theorem ggX3_doors_X3_doorsOf : GoodIn wsX3_doors wsX3_doorsOf := goodIn_r _ [12, 13, 14, 15, 16, 6, 17, 18, 19, 20, 21, 8, 22, 2, 23, 24, 25, 26, 27, 28, 33, 34, 35, 36, 37, 38, 39, 40, 41, 42, 43, 44, 45, 46, 47] (by decide +kernel) (by decide +kernel)
set_option maxRecDepth 20000 in
theorem gX3_doors_X3_doorsOf : GoodIn wsX3_doors (wsV RX3 89 RX3 yX3_doorsOf wsX3_doorsOf) := goodIn_app (goodIn_of _ (by decide +kernel)) ggX3_doors_X3_doorsOf
set_option maxRecDepth 20000 in
theorem ggX3_doors_X3_fail : GoodIn wsX3_doors wsX3_fail := goodIn_r _ [32, 1, 33, 34, 35, 36, 37, 38, 39, 40, 41, 42, 43, 44, 45, 46, 47] (by decide +kernel) (by decide +kernel)
set_option maxRecDepth 20000 in
theorem gX3_doors_X3_fail : GoodIn wsX3_doors (wsV RX3 64 RX3 yX3_fail wsX3_fail) := goodIn_app (goodIn_of _ (by decide +kernel)) ggX3_doors_X3_fail
theorem dX3_doors_0 : decode cX3_doors 0 = .ok (.aload_n 0, 1) := by decide +kernel
theorem dX3_doors_1 : decode cX3_doors 1 = .ok (.iconst 0, 1) := by decide +kernel
theorem dX3_doors_2 : decode cX3_doors 2 = .ok (.putfield 37, 3) := by decide +kernel
theorem dX3_doors_5 : decode cX3_doors 5 = .ok (.aload_n 0, 1) := by decide +kernel
theorem dX3_doors_6 : decode cX3_doors 6 = .ok (.iload_n 1, 1) := by decide +kernel
theorem dX3_doors_7 : decode cX3_doors 7 = .ok (.invokevirtual 86, 3) := by decide +kernel
theorem dX3_doors_10 : decode cX3_doors 10 = .ok (.ifCond .eq 16, 3) := by decide +kernel
theorem dX3_doors_13 : decode cX3_doors 13 = .ok (.aload_n 0, 1) := by decide +kernel
theorem dX3_doors_14 : decode cX3_doors 14 = .ok (.aload_n 0, 1) := by decide +kernel
theorem dX3_doors_15 : decode cX3_doors 15 = .ok (.getfield 9, 3) := by decide +kernel
theorem dX3_doors_18 : decode cX3_doors 18 = .ok (.iload_n 1, 1) := by decide +kernel
theorem dX3_doors_19 : decode cX3_doors 19 = .ok (.iaload, 1) := by decide +kernel
theorem dX3_doors_20 : decode cX3_doors 20 = .ok (.invokevirtual 89, 3) := by decide +kernel
theorem dX3_doors_23 : decode cX3_doors 23 = .ok (.goto 8, 3) := by decide +kernel
theorem dX3_doors_26 : decode cX3_doors 26 = .ok (.aload_n 0, 1) := by decide +kernel
theorem dX3_doors_27 : decode cX3_doors 27 = .ok (.iconst 1, 1) := by decide +kernel
theorem dX3_doors_28 : decode cX3_doors 28 = .ok (.invokevirtual 64, 3) := by decide +kernel
theorem dX3_doors_31 : decode cX3_doors 31 = .ok (.ireturn, 1) := by decide +kernel
set_option maxRecDepth 20000 in
theorem ggX3_strays_X3_strayCount : GoodIn wsX3_strays wsX3_strayCount := goodIn_r _ [6, 7, 8, 9, 10, 11, 12, 13, 5, 14, 15, 16, 17, 18, 19, 20, 21, 22, 23, 24, 25, 26, 27, 28, 29, 30, 31, 32, 33, 34, 35, 36, 37, 38, 39] (by decide +kernel) (by decide +kernel)
set_option maxRecDepth 20000 in
theorem gX3_strays_X3_strayCount : GoodIn wsX3_strays (wsV RX3 92 RX3 yX3_strayCount wsX3_strayCount) := goodIn_app (goodIn_of _ (by decide +kernel)) ggX3_strays_X3_strayCount
theorem dX3_strays_0 : decode cX3_strays 0 = .ok (.aload_n 0, 1) := by decide +kernel
theorem dX3_strays_1 : decode cX3_strays 1 = .ok (.iconst 0, 1) := by decide +kernel
theorem dX3_strays_2 : decode cX3_strays 2 = .ok (.putfield 37, 3) := by decide +kernel
theorem dX3_strays_5 : decode cX3_strays 5 = .ok (.aload_n 0, 1) := by decide +kernel
theorem dX3_strays_6 : decode cX3_strays 6 = .ok (.invokevirtual 92, 3) := by decide +kernel
theorem dX3_strays_9 : decode cX3_strays 9 = .ok (.ireturn, 1) := by decide +kernel
set_option maxRecDepth 20000 in
theorem ggX3_codes_X3_isDoor : GoodIn wsX3_codes wsX3_isDoor := goodIn_r _ [6, 7, 29, 30, 31, 32, 33, 34, 35, 36, 37, 38, 39, 40, 41, 42, 43] (by decide +kernel) (by decide +kernel)
set_option maxRecDepth 20000 in
theorem gX3_codes_X3_isDoor : GoodIn wsX3_codes (wsV RX3 83 RX3 yX3_isDoor wsX3_isDoor) := goodIn_app (goodIn_of _ (by decide +kernel)) ggX3_codes_X3_isDoor
set_option maxRecDepth 20000 in
theorem ggX3_codes_X3_fail : GoodIn wsX3_codes wsX3_fail := goodIn_r _ [11, 1, 29, 30, 31, 32, 33, 34, 35, 36, 37, 38, 39, 40, 41, 42, 43] (by decide +kernel) (by decide +kernel)
set_option maxRecDepth 20000 in
theorem gX3_codes_X3_fail : GoodIn wsX3_codes (wsV RX3 64 RX3 yX3_fail wsX3_fail) := goodIn_app (goodIn_of _ (by decide +kernel)) ggX3_codes_X3_fail
set_option maxRecDepth 20000 in
theorem ggX3_codes_X3_opensWith : GoodIn wsX3_codes wsX3_opensWith := goodIn_r _ [15, 16, 17, 18, 5, 19, 20, 21, 22, 23, 24, 25, 26, 27, 28, 29, 30, 31, 32, 33, 34, 35, 36, 37, 38, 39, 40, 41, 42, 43] (by decide +kernel) (by decide +kernel)
set_option maxRecDepth 20000 in
theorem gX3_codes_X3_opensWith : GoodIn wsX3_codes (wsV RX3 61 RX3 yX3_opensWith wsX3_opensWith) := goodIn_app (goodIn_of _ (by decide +kernel)) ggX3_codes_X3_opensWith
theorem dX3_codes_0 : decode cX3_codes 0 = .ok (.aload_n 0, 1) := by decide +kernel
theorem dX3_codes_1 : decode cX3_codes 1 = .ok (.iconst 0, 1) := by decide +kernel
theorem dX3_codes_2 : decode cX3_codes 2 = .ok (.putfield 37, 3) := by decide +kernel
theorem dX3_codes_5 : decode cX3_codes 5 = .ok (.aload_n 0, 1) := by decide +kernel
theorem dX3_codes_6 : decode cX3_codes 6 = .ok (.iload_n 1, 1) := by decide +kernel
theorem dX3_codes_7 : decode cX3_codes 7 = .ok (.invokevirtual 83, 3) := by decide +kernel
theorem dX3_codes_10 : decode cX3_codes 10 = .ok (.ifCond .ne 9, 3) := by decide +kernel
theorem dX3_codes_13 : decode cX3_codes 13 = .ok (.aload_n 0, 1) := by decide +kernel
theorem dX3_codes_14 : decode cX3_codes 14 = .ok (.iconst 1, 1) := by decide +kernel
theorem dX3_codes_15 : decode cX3_codes 15 = .ok (.invokevirtual 64, 3) := by decide +kernel
theorem dX3_codes_18 : decode cX3_codes 18 = .ok (.ireturn, 1) := by decide +kernel
theorem dX3_codes_19 : decode cX3_codes 19 = .ok (.iconst 0, 1) := by decide +kernel
theorem dX3_codes_20 : decode cX3_codes 20 = .ok (.istore_n 2, 1) := by decide +kernel
theorem dX3_codes_21 : decode cX3_codes 21 = .ok (.iconst 0, 1) := by decide +kernel
theorem dX3_codes_22 : decode cX3_codes 22 = .ok (.istore_n 3, 1) := by decide +kernel
theorem dX3_codes_23 : decode cX3_codes 23 = .ok (.iload_n 3, 1) := by decide +kernel
theorem dX3_codes_24 : decode cX3_codes 24 = .ok (.sipush 1024, 3) := by decide +kernel
theorem dX3_codes_27 : decode cX3_codes 27 = .ok (.if_icmp .ge 26, 3) := by decide +kernel
theorem dX3_codes_30 : decode cX3_codes 30 = .ok (.iload_n 2, 1) := by decide +kernel
theorem dX3_codes_31 : decode cX3_codes 31 = .ok (.aload_n 0, 1) := by decide +kernel
theorem dX3_codes_32 : decode cX3_codes 32 = .ok (.iload_n 3, 1) := by decide +kernel
theorem dX3_codes_33 : decode cX3_codes 33 = .ok (.iload_n 1, 1) := by decide +kernel
theorem dX3_codes_34 : decode cX3_codes 34 = .ok (.invokevirtual 61, 3) := by decide +kernel
theorem dX3_codes_37 : decode cX3_codes 37 = .ok (.ifCond .eq 7, 3) := by decide +kernel
theorem dX3_codes_40 : decode cX3_codes 40 = .ok (.iconst 1, 1) := by decide +kernel
theorem dX3_codes_41 : decode cX3_codes 41 = .ok (.goto 4, 3) := by decide +kernel
theorem dX3_codes_44 : decode cX3_codes 44 = .ok (.iconst 0, 1) := by decide +kernel
theorem dX3_codes_45 : decode cX3_codes 45 = .ok (.iadd, 1) := by decide +kernel
theorem dX3_codes_46 : decode cX3_codes 46 = .ok (.istore_n 2, 1) := by decide +kernel
theorem dX3_codes_47 : decode cX3_codes 47 = .ok (.iinc 3 1, 3) := by decide +kernel
theorem dX3_codes_50 : decode cX3_codes 50 = .ok (.goto (-27), 3) := by decide +kernel
theorem dX3_codes_53 : decode cX3_codes 53 = .ok (.iload_n 2, 1) := by decide +kernel
theorem dX3_codes_54 : decode cX3_codes 54 = .ok (.ireturn, 1) := by decide +kernel
set_option maxRecDepth 20000 in
theorem ggX3_isAbove_X3_isKey : GoodIn wsX3_isAbove wsX3_isKey := goodIn_r _ [7, 8, 29, 30, 31, 32, 33, 34, 35, 36, 37, 38, 39, 40, 41, 42, 43] (by decide +kernel) (by decide +kernel)
set_option maxRecDepth 20000 in
theorem gX3_isAbove_X3_isKey : GoodIn wsX3_isAbove (wsV RX3 86 RX3 yX3_isKey wsX3_isKey) := goodIn_app (goodIn_of _ (by decide +kernel)) ggX3_isAbove_X3_isKey
set_option maxRecDepth 20000 in
theorem ggX3_isAbove_X3_doorsOf : GoodIn wsX3_isAbove wsX3_doorsOf := goodIn_r _ [12, 13, 14, 15, 16, 6, 17, 18, 19, 20, 21, 8, 22, 2, 23, 24, 25, 26, 27, 28, 29, 30, 31, 32, 33, 34, 35, 36, 37, 38, 39, 40, 41, 42, 43] (by decide +kernel) (by decide +kernel)
set_option maxRecDepth 20000 in
theorem gX3_isAbove_X3_doorsOf : GoodIn wsX3_isAbove (wsV RX3 89 RX3 yX3_doorsOf wsX3_doorsOf) := goodIn_app (goodIn_of _ (by decide +kernel)) ggX3_isAbove_X3_doorsOf
theorem dX3_isAbove_0 : decode cX3_isAbove 0 = .ok (.aload_n 0, 1) := by decide +kernel
theorem dX3_isAbove_1 : decode cX3_isAbove 1 = .ok (.aload_n 0, 1) := by decide +kernel
theorem dX3_isAbove_2 : decode cX3_isAbove 2 = .ok (.iload_n 1, 1) := by decide +kernel
theorem dX3_isAbove_3 : decode cX3_isAbove 3 = .ok (.invokevirtual 86, 3) := by decide +kernel
theorem dX3_isAbove_6 : decode cX3_isAbove 6 = .ok (.ifCond .eq 15, 3) := by decide +kernel
theorem dX3_isAbove_9 : decode cX3_isAbove 9 = .ok (.aload_n 0, 1) := by decide +kernel
theorem dX3_isAbove_10 : decode cX3_isAbove 10 = .ok (.iload_n 2, 1) := by decide +kernel
theorem dX3_isAbove_11 : decode cX3_isAbove 11 = .ok (.invokevirtual 86, 3) := by decide +kernel
theorem dX3_isAbove_14 : decode cX3_isAbove 14 = .ok (.ifCond .eq 7, 3) := by decide +kernel
theorem dX3_isAbove_17 : decode cX3_isAbove 17 = .ok (.iconst 0, 1) := by decide +kernel
theorem dX3_isAbove_18 : decode cX3_isAbove 18 = .ok (.goto 4, 3) := by decide +kernel
theorem dX3_isAbove_21 : decode cX3_isAbove 21 = .ok (.iconst 1, 1) := by decide +kernel
theorem dX3_isAbove_22 : decode cX3_isAbove 22 = .ok (.putfield 37, 3) := by decide +kernel
theorem dX3_isAbove_25 : decode cX3_isAbove 25 = .ok (.aload_n 0, 1) := by decide +kernel
theorem dX3_isAbove_26 : decode cX3_isAbove 26 = .ok (.getfield 37, 3) := by decide +kernel
theorem dX3_isAbove_29 : decode cX3_isAbove 29 = .ok (.ifCond .eq 5, 3) := by decide +kernel
theorem dX3_isAbove_32 : decode cX3_isAbove 32 = .ok (.iconst 0, 1) := by decide +kernel
theorem dX3_isAbove_33 : decode cX3_isAbove 33 = .ok (.ireturn, 1) := by decide +kernel
theorem dX3_isAbove_34 : decode cX3_isAbove 34 = .ok (.aload_n 0, 1) := by decide +kernel
theorem dX3_isAbove_35 : decode cX3_isAbove 35 = .ok (.aload_n 0, 1) := by decide +kernel
theorem dX3_isAbove_36 : decode cX3_isAbove 36 = .ok (.getfield 9, 3) := by decide +kernel
theorem dX3_isAbove_39 : decode cX3_isAbove 39 = .ok (.iload_n 1, 1) := by decide +kernel
theorem dX3_isAbove_40 : decode cX3_isAbove 40 = .ok (.iaload, 1) := by decide +kernel
theorem dX3_isAbove_41 : decode cX3_isAbove 41 = .ok (.invokevirtual 89, 3) := by decide +kernel
theorem dX3_isAbove_44 : decode cX3_isAbove 44 = .ok (.istore_n 3, 1) := by decide +kernel
theorem dX3_isAbove_45 : decode cX3_isAbove 45 = .ok (.aload_n 0, 1) := by decide +kernel
theorem dX3_isAbove_46 : decode cX3_isAbove 46 = .ok (.aload_n 0, 1) := by decide +kernel
theorem dX3_isAbove_47 : decode cX3_isAbove 47 = .ok (.getfield 9, 3) := by decide +kernel
theorem dX3_isAbove_50 : decode cX3_isAbove 50 = .ok (.iload_n 2, 1) := by decide +kernel
theorem dX3_isAbove_51 : decode cX3_isAbove 51 = .ok (.iaload, 1) := by decide +kernel
theorem dX3_isAbove_52 : decode cX3_isAbove 52 = .ok (.invokevirtual 89, 3) := by decide +kernel
theorem dX3_isAbove_55 : decode cX3_isAbove 55 = .ok (.istore 4, 2) := by decide +kernel
theorem dX3_isAbove_57 : decode cX3_isAbove 57 = .ok (.iload 4, 2) := by decide +kernel
theorem dX3_isAbove_59 : decode cX3_isAbove 59 = .ok (.iload_n 3, 1) := by decide +kernel
theorem dX3_isAbove_60 : decode cX3_isAbove 60 = .ok (.iconst (-1), 1) := by decide +kernel
theorem dX3_isAbove_61 : decode cX3_isAbove 61 = .ok (.ixor, 1) := by decide +kernel
theorem dX3_isAbove_62 : decode cX3_isAbove 62 = .ok (.iand, 1) := by decide +kernel
theorem dX3_isAbove_63 : decode cX3_isAbove 63 = .ok (.ifCond .ne 13, 3) := by decide +kernel
theorem dX3_isAbove_66 : decode cX3_isAbove 66 = .ok (.iload_n 3, 1) := by decide +kernel
theorem dX3_isAbove_67 : decode cX3_isAbove 67 = .ok (.iload 4, 2) := by decide +kernel
theorem dX3_isAbove_69 : decode cX3_isAbove 69 = .ok (.if_icmp .eq 7, 3) := by decide +kernel
theorem dX3_isAbove_72 : decode cX3_isAbove 72 = .ok (.iconst 1, 1) := by decide +kernel
theorem dX3_isAbove_73 : decode cX3_isAbove 73 = .ok (.goto 4, 3) := by decide +kernel
theorem dX3_isAbove_76 : decode cX3_isAbove 76 = .ok (.iconst 0, 1) := by decide +kernel
theorem dX3_isAbove_77 : decode cX3_isAbove 77 = .ok (.ireturn, 1) := by decide +kernel
theorem dX3_work_0 : decode cX3_work 0 = .ok (.aload_n 0, 1) := by decide +kernel
theorem dX3_work_1 : decode cX3_work 1 = .ok (.iconst 0, 1) := by decide +kernel
theorem dX3_work_2 : decode cX3_work 2 = .ok (.putfield 37, 3) := by decide +kernel
theorem dX3_work_5 : decode cX3_work 5 = .ok (.aload_n 0, 1) := by decide +kernel
theorem dX3_work_6 : decode cX3_work 6 = .ok (.getfield 72, 3) := by decide +kernel
theorem dX3_work_9 : decode cX3_work 9 = .ok (.ireturn, 1) := by decide +kernel
set_option maxRecDepth 20000 in
theorem ggX3_replace_X3_isKey : GoodIn wsX3_replace wsX3_isKey := goodIn_r _ [14, 5, 60, 61, 62, 63, 64, 65, 66, 67, 68, 69, 70, 71, 72, 73, 74] (by decide +kernel) (by decide +kernel)
set_option maxRecDepth 20000 in
theorem gX3_replace_X3_isKey : GoodIn wsX3_replace (wsV RX3 86 RX3 yX3_isKey wsX3_isKey) := goodIn_app (goodIn_of _ (by decide +kernel)) ggX3_replace_X3_isKey
set_option maxRecDepth 20000 in
theorem ggX3_replace_X3_fail : GoodIn wsX3_replace wsX3_fail := goodIn_r _ [18, 1, 60, 61, 62, 63, 64, 65, 66, 67, 68, 69, 70, 71, 72, 73, 74] (by decide +kernel) (by decide +kernel)
set_option maxRecDepth 20000 in
theorem gX3_replace_X3_fail : GoodIn wsX3_replace (wsV RX3 64 RX3 yX3_fail wsX3_fail) := goodIn_app (goodIn_of _ (by decide +kernel)) ggX3_replace_X3_fail
set_option maxRecDepth 20000 in
theorem ggX3_replace_X3_allPins : GoodIn wsX3_replace wsX3_allPins := goodIn_r _ [22, 23, 24, 25, 13, 26, 5, 27, 2, 28, 29, 30, 31, 32, 33, 60, 61, 62, 63, 64, 65, 66, 67, 68, 69, 70, 71, 72, 73, 74] (by decide +kernel) (by decide +kernel)
set_option maxRecDepth 20000 in
theorem gX3_replace_X3_allPins : GoodIn wsX3_replace (wsV RX3 75 RX3 yX3_allPins wsX3_allPins) := goodIn_app (goodIn_of _ (by decide +kernel)) ggX3_replace_X3_allPins
set_option maxRecDepth 20000 in
theorem ggX3_replace_X3_doorsOf : GoodIn wsX3_replace wsX3_doorsOf := goodIn_r _ [37, 3, 38, 39, 40, 13, 41, 23, 24, 25, 26, 5, 27, 2, 28, 29, 30, 31, 32, 33, 60, 61, 62, 63, 64, 65, 66, 67, 68, 69, 70, 71, 72, 73, 74] (by decide +kernel) (by decide +kernel)
set_option maxRecDepth 20000 in
theorem gX3_replace_X3_doorsOf : GoodIn wsX3_replace (wsV RX3 89 RX3 yX3_doorsOf wsX3_doorsOf) := goodIn_app (goodIn_of _ (by decide +kernel)) ggX3_replace_X3_doorsOf
set_option maxRecDepth 20000 in
theorem ggX3_replace_X3_strayCount : GoodIn wsX3_replace wsX3_strayCount := goodIn_r _ [45, 5, 3, 2, 27, 38, 39, 40, 13, 41, 23, 24, 25, 26, 28, 29, 30, 31, 32, 33, 60, 61, 62, 63, 64, 65, 66, 67, 68, 69, 70, 71, 72, 73, 74] (by decide +kernel) (by decide +kernel)
set_option maxRecDepth 20000 in
theorem gX3_replace_X3_strayCount : GoodIn wsX3_replace (wsV RX3 92 RX3 yX3_strayCount wsX3_strayCount) := goodIn_app (goodIn_of _ (by decide +kernel)) ggX3_replace_X3_strayCount
set_option maxRecDepth 20000 in
theorem ggX3_replace_J6_bitCount_0f7a4 : GoodIn wsX3_replace wsJ6_bitCount_0f7a4 := goodIn_r _ [49, 50, 51, 52] (by decide +kernel) (by decide +kernel)
set_option maxRecDepth 20000 in
theorem gX3_replace_J6_bitCount_0f7a4 : GoodIn wsX3_replace (va_wsS RX3 78 yJ6_bitCount_0f7a4 wsJ6_bitCount_0f7a4) := goodIn_app (goodIn_of _ (by decide +kernel)) ggX3_replace_J6_bitCount_0f7a4
set_option maxRecDepth 20000 in
theorem ggX3_replace_X3_stop : GoodIn wsX3_replace wsX3_stop := goodIn_r _ [56, 9, 57, 58, 59, 60, 61, 62, 63, 64, 65, 66, 67, 68, 69, 70, 71, 72, 73, 74] (by decide +kernel) (by decide +kernel)
set_option maxRecDepth 20000 in
theorem gX3_replace_X3_stop : GoodIn wsX3_replace (wsV RX3 96 RX3 yX3_stop wsX3_stop) := goodIn_app (goodIn_of _ (by decide +kernel)) ggX3_replace_X3_stop
theorem dX3_replace_0 : decode cX3_replace 0 = .ok (.aload_n 0, 1) := by decide +kernel
theorem dX3_replace_1 : decode cX3_replace 1 = .ok (.iconst 0, 1) := by decide +kernel
theorem dX3_replace_2 : decode cX3_replace 2 = .ok (.putfield 37, 3) := by decide +kernel
theorem dX3_replace_5 : decode cX3_replace 5 = .ok (.aload_n 0, 1) := by decide +kernel
theorem dX3_replace_6 : decode cX3_replace 6 = .ok (.iload_n 1, 1) := by decide +kernel
theorem dX3_replace_7 : decode cX3_replace 7 = .ok (.invokevirtual 86, 3) := by decide +kernel
theorem dX3_replace_10 : decode cX3_replace 10 = .ok (.ifCond .ne 9, 3) := by decide +kernel
theorem dX3_replace_13 : decode cX3_replace 13 = .ok (.aload_n 0, 1) := by decide +kernel
theorem dX3_replace_14 : decode cX3_replace 14 = .ok (.iconst 1, 1) := by decide +kernel
theorem dX3_replace_15 : decode cX3_replace 15 = .ok (.invokevirtual 64, 3) := by decide +kernel
theorem dX3_replace_18 : decode cX3_replace 18 = .ok (.ireturn, 1) := by decide +kernel
theorem dX3_replace_19 : decode cX3_replace 19 = .ok (.aload_n 0, 1) := by decide +kernel
theorem dX3_replace_20 : decode cX3_replace 20 = .ok (.getfield 9, 3) := by decide +kernel
theorem dX3_replace_23 : decode cX3_replace 23 = .ok (.iload_n 1, 1) := by decide +kernel
theorem dX3_replace_24 : decode cX3_replace 24 = .ok (.iaload, 1) := by decide +kernel
theorem dX3_replace_25 : decode cX3_replace 25 = .ok (.istore_n 2, 1) := by decide +kernel
theorem dX3_replace_26 : decode cX3_replace 26 = .ok (.aload_n 0, 1) := by decide +kernel
theorem dX3_replace_27 : decode cX3_replace 27 = .ok (.getfield 44, 3) := by decide +kernel
theorem dX3_replace_30 : decode cX3_replace 30 = .ok (.newarray .int, 2) := by decide +kernel
theorem dX3_replace_32 : decode cX3_replace 32 = .ok (.astore_n 3, 1) := by decide +kernel
theorem dX3_replace_33 : decode cX3_replace 33 = .ok (.iconst 0, 1) := by decide +kernel
theorem dX3_replace_34 : decode cX3_replace 34 = .ok (.istore 4, 2) := by decide +kernel
theorem dX3_replace_36 : decode cX3_replace 36 = .ok (.iload 4, 2) := by decide +kernel
theorem dX3_replace_38 : decode cX3_replace 38 = .ok (.aload_n 0, 1) := by decide +kernel
theorem dX3_replace_39 : decode cX3_replace 39 = .ok (.getfield 44, 3) := by decide +kernel
theorem dX3_replace_42 : decode cX3_replace 42 = .ok (.if_icmp .ge 19, 3) := by decide +kernel
theorem dX3_replace_45 : decode cX3_replace 45 = .ok (.aload_n 3, 1) := by decide +kernel
theorem dX3_replace_46 : decode cX3_replace 46 = .ok (.iload 4, 2) := by decide +kernel
theorem dX3_replace_48 : decode cX3_replace 48 = .ok (.aload_n 0, 1) := by decide +kernel
theorem dX3_replace_49 : decode cX3_replace 49 = .ok (.iload 4, 2) := by decide +kernel
theorem dX3_replace_51 : decode cX3_replace 51 = .ok (.invokevirtual 75, 3) := by decide +kernel
theorem dX3_replace_54 : decode cX3_replace 54 = .ok (.iastore, 1) := by decide +kernel
theorem dX3_replace_55 : decode cX3_replace 55 = .ok (.iinc 4 1, 3) := by decide +kernel
theorem dX3_replace_58 : decode cX3_replace 58 = .ok (.goto (-22), 3) := by decide +kernel
theorem dX3_replace_61 : decode cX3_replace 61 = .ok (.iconst (-1), 1) := by decide +kernel
theorem dX3_replace_62 : decode cX3_replace 62 = .ok (.istore 4, 2) := by decide +kernel
theorem dX3_replace_64 : decode cX3_replace 64 = .ok (.iconst 0, 1) := by decide +kernel
theorem dX3_replace_65 : decode cX3_replace 65 = .ok (.istore 5, 2) := by decide +kernel
theorem dX3_replace_67 : decode cX3_replace 67 = .ok (.iconst 0, 1) := by decide +kernel
theorem dX3_replace_68 : decode cX3_replace 68 = .ok (.istore 6, 2) := by decide +kernel
theorem dX3_replace_70 : decode cX3_replace 70 = .ok (.iconst 0, 1) := by decide +kernel
theorem dX3_replace_71 : decode cX3_replace 71 = .ok (.istore 7, 2) := by decide +kernel
theorem dX3_replace_73 : decode cX3_replace 73 = .ok (.iload 7, 2) := by decide +kernel
theorem dX3_replace_75 : decode cX3_replace 75 = .ok (.sipush 1024, 3) := by decide +kernel
theorem dX3_replace_78 : decode cX3_replace 78 = .ok (.if_icmp .ge 179, 3) := by decide +kernel
theorem dX3_replace_81 : decode cX3_replace 81 = .ok (.iconst 1, 1) := by decide +kernel
theorem dX3_replace_82 : decode cX3_replace 82 = .ok (.istore 8, 2) := by decide +kernel
theorem dX3_replace_84 : decode cX3_replace 84 = .ok (.iconst 0, 1) := by decide +kernel
theorem dX3_replace_85 : decode cX3_replace 85 = .ok (.istore 9, 2) := by decide +kernel
theorem dX3_replace_87 : decode cX3_replace 87 = .ok (.iload 9, 2) := by decide +kernel
theorem dX3_replace_89 : decode cX3_replace 89 = .ok (.aload_n 0, 1) := by decide +kernel
theorem dX3_replace_90 : decode cX3_replace 90 = .ok (.getfield 41, 3) := by decide +kernel
theorem dX3_replace_93 : decode cX3_replace 93 = .ok (.if_icmp .ge 43, 3) := by decide +kernel
theorem dX3_replace_96 : decode cX3_replace 96 = .ok (.iload 8, 2) := by decide +kernel
theorem dX3_replace_98 : decode cX3_replace 98 = .ok (.ifCond .eq 29, 3) := by decide +kernel
theorem dX3_replace_101 : decode cX3_replace 101 = .ok (.iload 9, 2) := by decide +kernel
theorem dX3_replace_103 : decode cX3_replace 103 = .ok (.iload_n 1, 1) := by decide +kernel
theorem dX3_replace_104 : decode cX3_replace 104 = .ok (.if_icmp .ne 7, 3) := by decide +kernel
theorem dX3_replace_107 : decode cX3_replace 107 = .ok (.iload_n 2, 1) := by decide +kernel
theorem dX3_replace_108 : decode cX3_replace 108 = .ok (.goto 10, 3) := by decide +kernel
theorem dX3_replace_111 : decode cX3_replace 111 = .ok (.aload_n 0, 1) := by decide +kernel
theorem dX3_replace_112 : decode cX3_replace 112 = .ok (.getfield 9, 3) := by decide +kernel
theorem dX3_replace_115 : decode cX3_replace 115 = .ok (.iload 9, 2) := by decide +kernel
theorem dX3_replace_117 : decode cX3_replace 117 = .ok (.iaload, 1) := by decide +kernel
theorem dX3_replace_118 : decode cX3_replace 118 = .ok (.iload 7, 2) := by decide +kernel
theorem dX3_replace_120 : decode cX3_replace 120 = .ok (.if_icmp .eq 7, 3) := by decide +kernel
theorem dX3_replace_123 : decode cX3_replace 123 = .ok (.iconst 1, 1) := by decide +kernel
theorem dX3_replace_124 : decode cX3_replace 124 = .ok (.goto 4, 3) := by decide +kernel
theorem dX3_replace_127 : decode cX3_replace 127 = .ok (.iconst 0, 1) := by decide +kernel
theorem dX3_replace_128 : decode cX3_replace 128 = .ok (.istore 8, 2) := by decide +kernel
theorem dX3_replace_130 : decode cX3_replace 130 = .ok (.iinc 9 1, 3) := by decide +kernel
theorem dX3_replace_133 : decode cX3_replace 133 = .ok (.goto (-46), 3) := by decide +kernel
theorem dX3_replace_136 : decode cX3_replace 136 = .ok (.iload 8, 2) := by decide +kernel
theorem dX3_replace_138 : decode cX3_replace 138 = .ok (.ifCond .ne 6, 3) := by decide +kernel
theorem dX3_replace_141 : decode cX3_replace 141 = .ok (.goto 110, 3) := by decide +kernel
theorem dX3_replace_144 : decode cX3_replace 144 = .ok (.aload_n 0, 1) := by decide +kernel
theorem dX3_replace_145 : decode cX3_replace 145 = .ok (.getfield 9, 3) := by decide +kernel
theorem dX3_replace_148 : decode cX3_replace 148 = .ok (.iload_n 1, 1) := by decide +kernel
theorem dX3_replace_149 : decode cX3_replace 149 = .ok (.iload 7, 2) := by decide +kernel
theorem dX3_replace_151 : decode cX3_replace 151 = .ok (.iastore, 1) := by decide +kernel
theorem dX3_replace_152 : decode cX3_replace 152 = .ok (.aload_n 0, 1) := by decide +kernel
theorem dX3_replace_153 : decode cX3_replace 153 = .ok (.iload_n 2, 1) := by decide +kernel
theorem dX3_replace_154 : decode cX3_replace 154 = .ok (.invokevirtual 89, 3) := by decide +kernel
theorem dX3_replace_157 : decode cX3_replace 157 = .ok (.ifCond .eq 6, 3) := by decide +kernel
theorem dX3_replace_160 : decode cX3_replace 160 = .ok (.goto 91, 3) := by decide +kernel
theorem dX3_replace_163 : decode cX3_replace 163 = .ok (.aload_n 0, 1) := by decide +kernel
theorem dX3_replace_164 : decode cX3_replace 164 = .ok (.invokevirtual 92, 3) := by decide +kernel
theorem dX3_replace_167 : decode cX3_replace 167 = .ok (.istore 9, 2) := by decide +kernel
theorem dX3_replace_169 : decode cX3_replace 169 = .ok (.iconst 0, 1) := by decide +kernel
theorem dX3_replace_170 : decode cX3_replace 170 = .ok (.istore 10, 2) := by decide +kernel
theorem dX3_replace_172 : decode cX3_replace 172 = .ok (.iconst 0, 1) := by decide +kernel
theorem dX3_replace_173 : decode cX3_replace 173 = .ok (.istore 11, 2) := by decide +kernel
theorem dX3_replace_175 : decode cX3_replace 175 = .ok (.iload 11, 2) := by decide +kernel
theorem dX3_replace_177 : decode cX3_replace 177 = .ok (.aload_n 0, 1) := by decide +kernel
theorem dX3_replace_178 : decode cX3_replace 178 = .ok (.getfield 44, 3) := by decide +kernel
theorem dX3_replace_181 : decode cX3_replace 181 = .ok (.if_icmp .ge 28, 3) := by decide +kernel
theorem dX3_replace_184 : decode cX3_replace 184 = .ok (.iload 10, 2) := by decide +kernel
theorem dX3_replace_186 : decode cX3_replace 186 = .ok (.aload_n 3, 1) := by decide +kernel
theorem dX3_replace_187 : decode cX3_replace 187 = .ok (.iload 11, 2) := by decide +kernel
theorem dX3_replace_189 : decode cX3_replace 189 = .ok (.iaload, 1) := by decide +kernel
theorem dX3_replace_190 : decode cX3_replace 190 = .ok (.aload_n 0, 1) := by decide +kernel
theorem dX3_replace_191 : decode cX3_replace 191 = .ok (.iload 11, 2) := by decide +kernel
theorem dX3_replace_193 : decode cX3_replace 193 = .ok (.invokevirtual 75, 3) := by decide +kernel
theorem dX3_replace_196 : decode cX3_replace 196 = .ok (.ixor, 1) := by decide +kernel
theorem dX3_replace_197 : decode cX3_replace 197 = .ok (.invokestatic 78, 3) := by decide +kernel
theorem dX3_replace_200 : decode cX3_replace 200 = .ok (.iadd, 1) := by decide +kernel
theorem dX3_replace_201 : decode cX3_replace 201 = .ok (.istore 10, 2) := by decide +kernel
theorem dX3_replace_203 : decode cX3_replace 203 = .ok (.iinc 11 1, 3) := by decide +kernel
theorem dX3_replace_206 : decode cX3_replace 206 = .ok (.goto (-31), 3) := by decide +kernel
theorem dX3_replace_209 : decode cX3_replace 209 = .ok (.iload 4, 2) := by decide +kernel
theorem dX3_replace_211 : decode cX3_replace 211 = .ok (.iconst (-1), 1) := by decide +kernel
theorem dX3_replace_212 : decode cX3_replace 212 = .ok (.if_icmp .eq 27, 3) := by decide +kernel
theorem dX3_replace_215 : decode cX3_replace 215 = .ok (.iload 9, 2) := by decide +kernel
theorem dX3_replace_217 : decode cX3_replace 217 = .ok (.iload 5, 2) := by decide +kernel
theorem dX3_replace_219 : decode cX3_replace 219 = .ok (.if_icmp .gt 32, 3) := by decide +kernel
theorem dX3_replace_222 : decode cX3_replace 222 = .ok (.iload 9, 2) := by decide +kernel
theorem dX3_replace_224 : decode cX3_replace 224 = .ok (.iload 5, 2) := by decide +kernel
theorem dX3_replace_226 : decode cX3_replace 226 = .ok (.if_icmp .ne 13, 3) := by decide +kernel
theorem dX3_replace_229 : decode cX3_replace 229 = .ok (.iload 10, 2) := by decide +kernel
theorem dX3_replace_231 : decode cX3_replace 231 = .ok (.iload 6, 2) := by decide +kernel
theorem dX3_replace_233 : decode cX3_replace 233 = .ok (.if_icmp .lt 6, 3) := by decide +kernel
theorem dX3_replace_236 : decode cX3_replace 236 = .ok (.goto 15, 3) := by decide +kernel
theorem dX3_replace_239 : decode cX3_replace 239 = .ok (.iload 7, 2) := by decide +kernel
theorem dX3_replace_241 : decode cX3_replace 241 = .ok (.istore 4, 2) := by decide +kernel
theorem dX3_replace_243 : decode cX3_replace 243 = .ok (.iload 9, 2) := by decide +kernel
theorem dX3_replace_245 : decode cX3_replace 245 = .ok (.istore 5, 2) := by decide +kernel
theorem dX3_replace_247 : decode cX3_replace 247 = .ok (.iload 10, 2) := by decide +kernel
theorem dX3_replace_249 : decode cX3_replace 249 = .ok (.istore 6, 2) := by decide +kernel
theorem dX3_replace_251 : decode cX3_replace 251 = .ok (.iinc 7 1, 3) := by decide +kernel
theorem dX3_replace_254 : decode cX3_replace 254 = .ok (.goto (-181), 3) := by decide +kernel
theorem dX3_replace_257 : decode cX3_replace 257 = .ok (.aload_n 0, 1) := by decide +kernel
theorem dX3_replace_258 : decode cX3_replace 258 = .ok (.getfield 9, 3) := by decide +kernel
theorem dX3_replace_261 : decode cX3_replace 261 = .ok (.iload_n 1, 1) := by decide +kernel
theorem dX3_replace_262 : decode cX3_replace 262 = .ok (.iload 4, 2) := by decide +kernel
theorem dX3_replace_264 : decode cX3_replace 264 = .ok (.iconst (-1), 1) := by decide +kernel
theorem dX3_replace_265 : decode cX3_replace 265 = .ok (.if_icmp .ne 7, 3) := by decide +kernel
theorem dX3_replace_268 : decode cX3_replace 268 = .ok (.iload_n 2, 1) := by decide +kernel
theorem dX3_replace_269 : decode cX3_replace 269 = .ok (.goto 5, 3) := by decide +kernel
theorem dX3_replace_272 : decode cX3_replace 272 = .ok (.iload 4, 2) := by decide +kernel
theorem dX3_replace_274 : decode cX3_replace 274 = .ok (.iastore, 1) := by decide +kernel
theorem dX3_replace_275 : decode cX3_replace 275 = .ok (.iload 4, 2) := by decide +kernel
theorem dX3_replace_277 : decode cX3_replace 277 = .ok (.iconst (-1), 1) := by decide +kernel
theorem dX3_replace_278 : decode cX3_replace 278 = .ok (.if_icmp .ne 5, 3) := by decide +kernel
theorem dX3_replace_281 : decode cX3_replace 281 = .ok (.iconst (-1), 1) := by decide +kernel
theorem dX3_replace_282 : decode cX3_replace 282 = .ok (.ireturn, 1) := by decide +kernel
theorem dX3_replace_283 : decode cX3_replace 283 = .ok (.aload_n 0, 1) := by decide +kernel
theorem dX3_replace_284 : decode cX3_replace 284 = .ok (.dup, 1) := by decide +kernel
theorem dX3_replace_285 : decode cX3_replace 285 = .ok (.getfield 72, 3) := by decide +kernel
theorem dX3_replace_288 : decode cX3_replace 288 = .ok (.iload 6, 2) := by decide +kernel
theorem dX3_replace_290 : decode cX3_replace 290 = .ok (.iadd, 1) := by decide +kernel
theorem dX3_replace_291 : decode cX3_replace 291 = .ok (.putfield 72, 3) := by decide +kernel
theorem dX3_replace_294 : decode cX3_replace 294 = .ok (.iconst 0, 1) := by decide +kernel
theorem dX3_replace_295 : decode cX3_replace 295 = .ok (.istore 7, 2) := by decide +kernel
theorem dX3_replace_297 : decode cX3_replace 297 = .ok (.iload 7, 2) := by decide +kernel
theorem dX3_replace_299 : decode cX3_replace 299 = .ok (.aload_n 0, 1) := by decide +kernel
theorem dX3_replace_300 : decode cX3_replace 300 = .ok (.getfield 47, 3) := by decide +kernel
theorem dX3_replace_303 : decode cX3_replace 303 = .ok (.if_icmp .ge 37, 3) := by decide +kernel
theorem dX3_replace_306 : decode cX3_replace 306 = .ok (.aload_n 0, 1) := by decide +kernel
theorem dX3_replace_307 : decode cX3_replace 307 = .ok (.getfield 16, 3) := by decide +kernel
theorem dX3_replace_310 : decode cX3_replace 310 = .ok (.iload 7, 2) := by decide +kernel
theorem dX3_replace_312 : decode cX3_replace 312 = .ok (.iaload, 1) := by decide +kernel
theorem dX3_replace_313 : decode cX3_replace 313 = .ok (.iload_n 1, 1) := by decide +kernel
theorem dX3_replace_314 : decode cX3_replace 314 = .ok (.if_icmp .eq 6, 3) := by decide +kernel
theorem dX3_replace_317 : decode cX3_replace 317 = .ok (.goto 17, 3) := by decide +kernel
theorem dX3_replace_320 : decode cX3_replace 320 = .ok (.aload_n 0, 1) := by decide +kernel
theorem dX3_replace_321 : decode cX3_replace 321 = .ok (.iload 7, 2) := by decide +kernel
theorem dX3_replace_323 : decode cX3_replace 323 = .ok (.invokevirtual 96, 3) := by decide +kernel
theorem dX3_replace_326 : decode cX3_replace 326 = .ok (.aload_n 0, 1) := by decide +kernel
theorem dX3_replace_327 : decode cX3_replace 327 = .ok (.getfield 19, 3) := by decide +kernel
theorem dX3_replace_330 : decode cX3_replace 330 = .ok (.iload 7, 2) := by decide +kernel
theorem dX3_replace_332 : decode cX3_replace 332 = .ok (.iconst 3, 1) := by decide +kernel
theorem dX3_replace_333 : decode cX3_replace 333 = .ok (.iastore, 1) := by decide +kernel
theorem dX3_replace_334 : decode cX3_replace 334 = .ok (.iinc 7 1, 3) := by decide +kernel
theorem dX3_replace_337 : decode cX3_replace 337 = .ok (.goto (-40), 3) := by decide +kernel
theorem dX3_replace_340 : decode cX3_replace 340 = .ok (.iload 4, 2) := by decide +kernel
theorem dX3_replace_342 : decode cX3_replace 342 = .ok (.ireturn, 1) := by decide +kernel
theorem dX3_stop_0 : decode cX3_stop 0 = .ok (.aload_n 0, 1) := by decide +kernel
theorem dX3_stop_1 : decode cX3_stop 1 = .ok (.getfield 19, 3) := by decide +kernel
theorem dX3_stop_4 : decode cX3_stop 4 = .ok (.iload_n 1, 1) := by decide +kernel
theorem dX3_stop_5 : decode cX3_stop 5 = .ok (.iaload, 1) := by decide +kernel
theorem dX3_stop_6 : decode cX3_stop 6 = .ok (.iconst 1, 1) := by decide +kernel
theorem dX3_stop_7 : decode cX3_stop 7 = .ok (.if_icmp .eq 4, 3) := by decide +kernel
theorem dX3_stop_10 : decode cX3_stop 10 = .ok (.return_, 1) := by decide +kernel
theorem dX3_stop_11 : decode cX3_stop 11 = .ok (.aload_n 0, 1) := by decide +kernel
theorem dX3_stop_12 : decode cX3_stop 12 = .ok (.getfield 34, 3) := by decide +kernel
theorem dX3_stop_15 : decode cX3_stop 15 = .ok (.bipush 9, 2) := by decide +kernel
theorem dX3_stop_17 : decode cX3_stop 17 = .ok (.iload_n 1, 1) := by decide +kernel
theorem dX3_stop_18 : decode cX3_stop 18 = .ok (.imul, 1) := by decide +kernel
theorem dX3_stop_19 : decode cX3_stop 19 = .ok (.aload_n 0, 1) := by decide +kernel
theorem dX3_stop_20 : decode cX3_stop 20 = .ok (.getfield 25, 3) := by decide +kernel
theorem dX3_stop_23 : decode cX3_stop 23 = .ok (.iload_n 1, 1) := by decide +kernel
theorem dX3_stop_24 : decode cX3_stop 24 = .ok (.iaload, 1) := by decide +kernel
theorem dX3_stop_25 : decode cX3_stop 25 = .ok (.iadd, 1) := by decide +kernel
theorem dX3_stop_26 : decode cX3_stop 26 = .ok (.iconst 1, 1) := by decide +kernel
theorem dX3_stop_27 : decode cX3_stop 27 = .ok (.isub, 1) := by decide +kernel
theorem dX3_stop_28 : decode cX3_stop 28 = .ok (.aload_n 0, 1) := by decide +kernel
theorem dX3_stop_29 : decode cX3_stop 29 = .ok (.getfield 100, 3) := by decide +kernel
theorem dX3_stop_32 : decode cX3_stop 32 = .ok (.iastore, 1) := by decide +kernel
theorem dX3_stop_33 : decode cX3_stop 33 = .ok (.return_, 1) := by decide +kernel
set_option maxRecDepth 20000 in
theorem ggX3_cut_X3_isKey : GoodIn wsX3_cut wsX3_isKey := goodIn_r _ [10, 11, 16, 17, 18, 19, 20, 21, 22, 23, 24, 25, 26, 27, 28, 29, 30] (by decide +kernel) (by decide +kernel)
set_option maxRecDepth 20000 in
theorem gX3_cut_X3_isKey : GoodIn wsX3_cut (wsV RX3 86 RX3 yX3_isKey wsX3_isKey) := goodIn_app (goodIn_of _ (by decide +kernel)) ggX3_cut_X3_isKey
set_option maxRecDepth 20000 in
theorem ggX3_cut_X3_fail : GoodIn wsX3_cut wsX3_fail := goodIn_r _ [15, 1, 16, 17, 18, 19, 20, 21, 22, 23, 24, 25, 26, 27, 28, 29, 30] (by decide +kernel) (by decide +kernel)
set_option maxRecDepth 20000 in
theorem gX3_cut_X3_fail : GoodIn wsX3_cut (wsV RX3 64 RX3 yX3_fail wsX3_fail) := goodIn_app (goodIn_of _ (by decide +kernel)) ggX3_cut_X3_fail
theorem dX3_cut_0 : decode cX3_cut 0 = .ok (.aload_n 0, 1) := by decide +kernel
theorem dX3_cut_1 : decode cX3_cut 1 = .ok (.iconst 0, 1) := by decide +kernel
theorem dX3_cut_2 : decode cX3_cut 2 = .ok (.putfield 37, 3) := by decide +kernel
theorem dX3_cut_5 : decode cX3_cut 5 = .ok (.aload_n 0, 1) := by decide +kernel
theorem dX3_cut_6 : decode cX3_cut 6 = .ok (.iload_n 1, 1) := by decide +kernel
theorem dX3_cut_7 : decode cX3_cut 7 = .ok (.invokevirtual 86, 3) := by decide +kernel
theorem dX3_cut_10 : decode cX3_cut 10 = .ok (.ifCond .ne 9, 3) := by decide +kernel
theorem dX3_cut_13 : decode cX3_cut 13 = .ok (.aload_n 0, 1) := by decide +kernel
theorem dX3_cut_14 : decode cX3_cut 14 = .ok (.iconst 1, 1) := by decide +kernel
theorem dX3_cut_15 : decode cX3_cut 15 = .ok (.invokevirtual 64, 3) := by decide +kernel
theorem dX3_cut_18 : decode cX3_cut 18 = .ok (.ireturn, 1) := by decide +kernel
theorem dX3_cut_19 : decode cX3_cut 19 = .ok (.aload_n 0, 1) := by decide +kernel
theorem dX3_cut_20 : decode cX3_cut 20 = .ok (.getfield 47, 3) := by decide +kernel
theorem dX3_cut_23 : decode cX3_cut 23 = .ok (.bipush 24, 2) := by decide +kernel
theorem dX3_cut_25 : decode cX3_cut 25 = .ok (.if_icmp .ne 9, 3) := by decide +kernel
theorem dX3_cut_28 : decode cX3_cut 28 = .ok (.aload_n 0, 1) := by decide +kernel
theorem dX3_cut_29 : decode cX3_cut 29 = .ok (.iconst 2, 1) := by decide +kernel
theorem dX3_cut_30 : decode cX3_cut 30 = .ok (.invokevirtual 64, 3) := by decide +kernel
theorem dX3_cut_33 : decode cX3_cut 33 = .ok (.ireturn, 1) := by decide +kernel
theorem dX3_cut_34 : decode cX3_cut 34 = .ok (.aload_n 0, 1) := by decide +kernel
theorem dX3_cut_35 : decode cX3_cut 35 = .ok (.getfield 16, 3) := by decide +kernel
theorem dX3_cut_38 : decode cX3_cut 38 = .ok (.aload_n 0, 1) := by decide +kernel
theorem dX3_cut_39 : decode cX3_cut 39 = .ok (.getfield 47, 3) := by decide +kernel
theorem dX3_cut_42 : decode cX3_cut 42 = .ok (.iload_n 1, 1) := by decide +kernel
theorem dX3_cut_43 : decode cX3_cut 43 = .ok (.iastore, 1) := by decide +kernel
theorem dX3_cut_44 : decode cX3_cut 44 = .ok (.aload_n 0, 1) := by decide +kernel
theorem dX3_cut_45 : decode cX3_cut 45 = .ok (.getfield 19, 3) := by decide +kernel
theorem dX3_cut_48 : decode cX3_cut 48 = .ok (.aload_n 0, 1) := by decide +kernel
theorem dX3_cut_49 : decode cX3_cut 49 = .ok (.getfield 47, 3) := by decide +kernel
theorem dX3_cut_52 : decode cX3_cut 52 = .ok (.iconst 0, 1) := by decide +kernel
theorem dX3_cut_53 : decode cX3_cut 53 = .ok (.iastore, 1) := by decide +kernel
theorem dX3_cut_54 : decode cX3_cut 54 = .ok (.aload_n 0, 1) := by decide +kernel
theorem dX3_cut_55 : decode cX3_cut 55 = .ok (.getfield 25, 3) := by decide +kernel
theorem dX3_cut_58 : decode cX3_cut 58 = .ok (.aload_n 0, 1) := by decide +kernel
theorem dX3_cut_59 : decode cX3_cut 59 = .ok (.getfield 47, 3) := by decide +kernel
theorem dX3_cut_62 : decode cX3_cut 62 = .ok (.iconst 0, 1) := by decide +kernel
theorem dX3_cut_63 : decode cX3_cut 63 = .ok (.iastore, 1) := by decide +kernel
theorem dX3_cut_64 : decode cX3_cut 64 = .ok (.aload_n 0, 1) := by decide +kernel
theorem dX3_cut_65 : decode cX3_cut 65 = .ok (.dup, 1) := by decide +kernel
theorem dX3_cut_66 : decode cX3_cut 66 = .ok (.getfield 47, 3) := by decide +kernel
theorem dX3_cut_69 : decode cX3_cut 69 = .ok (.iconst 1, 1) := by decide +kernel
theorem dX3_cut_70 : decode cX3_cut 70 = .ok (.iadd, 1) := by decide +kernel
theorem dX3_cut_71 : decode cX3_cut 71 = .ok (.putfield 47, 3) := by decide +kernel
theorem dX3_cut_74 : decode cX3_cut 74 = .ok (.aload_n 0, 1) := by decide +kernel
theorem dX3_cut_75 : decode cX3_cut 75 = .ok (.getfield 47, 3) := by decide +kernel
theorem dX3_cut_78 : decode cX3_cut 78 = .ok (.iconst 1, 1) := by decide +kernel
theorem dX3_cut_79 : decode cX3_cut 79 = .ok (.isub, 1) := by decide +kernel
theorem dX3_cut_80 : decode cX3_cut 80 = .ok (.ireturn, 1) := by decide +kernel
set_option maxRecDepth 20000 in
theorem ggX3_lend_X3_isCopy : GoodIn wsX3_lend wsX3_isCopy := goodIn_r _ [13, 14, 22, 23, 24, 25, 26, 27, 28, 29, 30, 31, 32, 33, 34, 35, 36] (by decide +kernel) (by decide +kernel)
set_option maxRecDepth 20000 in
theorem gX3_lend_X3_isCopy : GoodIn wsX3_lend (wsV RX3 103 RX3 yX3_isCopy wsX3_isCopy) := goodIn_app (goodIn_of _ (by decide +kernel)) ggX3_lend_X3_isCopy
set_option maxRecDepth 20000 in
theorem ggX3_lend_X3_isPerson : GoodIn wsX3_lend wsX3_isPerson := goodIn_r _ [17] (by decide +kernel) (by decide +kernel)
set_option maxRecDepth 20000 in
theorem gX3_lend_X3_isPerson : GoodIn wsX3_lend (va_wsS RX3 106 yX3_isPerson wsX3_isPerson) := goodIn_app (goodIn_of _ (by decide +kernel)) ggX3_lend_X3_isPerson
set_option maxRecDepth 20000 in
theorem ggX3_lend_X3_fail : GoodIn wsX3_lend wsX3_fail := goodIn_r _ [21, 1, 22, 23, 24, 25, 26, 27, 28, 29, 30, 31, 32, 33, 34, 35, 36] (by decide +kernel) (by decide +kernel)
set_option maxRecDepth 20000 in
theorem gX3_lend_X3_fail : GoodIn wsX3_lend (wsV RX3 64 RX3 yX3_fail wsX3_fail) := goodIn_app (goodIn_of _ (by decide +kernel)) ggX3_lend_X3_fail
theorem dX3_lend_0 : decode cX3_lend 0 = .ok (.aload_n 0, 1) := by decide +kernel
theorem dX3_lend_1 : decode cX3_lend 1 = .ok (.iconst 0, 1) := by decide +kernel
theorem dX3_lend_2 : decode cX3_lend 2 = .ok (.putfield 37, 3) := by decide +kernel
theorem dX3_lend_5 : decode cX3_lend 5 = .ok (.aload_n 0, 1) := by decide +kernel
theorem dX3_lend_6 : decode cX3_lend 6 = .ok (.iload_n 1, 1) := by decide +kernel
theorem dX3_lend_7 : decode cX3_lend 7 = .ok (.invokevirtual 103, 3) := by decide +kernel
theorem dX3_lend_10 : decode cX3_lend 10 = .ok (.ifCond .eq 10, 3) := by decide +kernel
theorem dX3_lend_13 : decode cX3_lend 13 = .ok (.iload_n 2, 1) := by decide +kernel
theorem dX3_lend_14 : decode cX3_lend 14 = .ok (.invokestatic 106, 3) := by decide +kernel
theorem dX3_lend_17 : decode cX3_lend 17 = .ok (.ifCond .ne 9, 3) := by decide +kernel
theorem dX3_lend_20 : decode cX3_lend 20 = .ok (.aload_n 0, 1) := by decide +kernel
theorem dX3_lend_21 : decode cX3_lend 21 = .ok (.iconst 1, 1) := by decide +kernel
theorem dX3_lend_22 : decode cX3_lend 22 = .ok (.invokevirtual 64, 3) := by decide +kernel
theorem dX3_lend_25 : decode cX3_lend 25 = .ok (.ireturn, 1) := by decide +kernel
theorem dX3_lend_26 : decode cX3_lend 26 = .ok (.iload_n 3, 1) := by decide +kernel
theorem dX3_lend_27 : decode cX3_lend 27 = .ok (.iconst 1, 1) := by decide +kernel
theorem dX3_lend_28 : decode cX3_lend 28 = .ok (.if_icmp .lt 9, 3) := by decide +kernel
theorem dX3_lend_31 : decode cX3_lend 31 = .ok (.iload_n 3, 1) := by decide +kernel
theorem dX3_lend_32 : decode cX3_lend 32 = .ok (.bipush 99, 2) := by decide +kernel
theorem dX3_lend_34 : decode cX3_lend 34 = .ok (.if_icmp .le 9, 3) := by decide +kernel
theorem dX3_lend_37 : decode cX3_lend 37 = .ok (.aload_n 0, 1) := by decide +kernel
theorem dX3_lend_38 : decode cX3_lend 38 = .ok (.iconst 2, 1) := by decide +kernel
theorem dX3_lend_39 : decode cX3_lend 39 = .ok (.invokevirtual 64, 3) := by decide +kernel
theorem dX3_lend_42 : decode cX3_lend 42 = .ok (.ireturn, 1) := by decide +kernel
theorem dX3_lend_43 : decode cX3_lend 43 = .ok (.aload_n 0, 1) := by decide +kernel
theorem dX3_lend_44 : decode cX3_lend 44 = .ok (.getfield 19, 3) := by decide +kernel
theorem dX3_lend_47 : decode cX3_lend 47 = .ok (.iload_n 1, 1) := by decide +kernel
theorem dX3_lend_48 : decode cX3_lend 48 = .ok (.iaload, 1) := by decide +kernel
theorem dX3_lend_49 : decode cX3_lend 49 = .ok (.ifCond .ne 14, 3) := by decide +kernel
theorem dX3_lend_52 : decode cX3_lend 52 = .ok (.aload_n 0, 1) := by decide +kernel
theorem dX3_lend_53 : decode cX3_lend 53 = .ok (.getfield 25, 3) := by decide +kernel
theorem dX3_lend_56 : decode cX3_lend 56 = .ok (.iload_n 1, 1) := by decide +kernel
theorem dX3_lend_57 : decode cX3_lend 57 = .ok (.iaload, 1) := by decide +kernel
theorem dX3_lend_58 : decode cX3_lend 58 = .ok (.bipush 9, 2) := by decide +kernel
theorem dX3_lend_60 : decode cX3_lend 60 = .ok (.if_icmp .ne 9, 3) := by decide +kernel
theorem dX3_lend_63 : decode cX3_lend 63 = .ok (.aload_n 0, 1) := by decide +kernel
theorem dX3_lend_64 : decode cX3_lend 64 = .ok (.iconst 3, 1) := by decide +kernel
theorem dX3_lend_65 : decode cX3_lend 65 = .ok (.invokevirtual 64, 3) := by decide +kernel
theorem dX3_lend_68 : decode cX3_lend 68 = .ok (.ireturn, 1) := by decide +kernel
theorem dX3_lend_69 : decode cX3_lend 69 = .ok (.bipush 9, 2) := by decide +kernel
theorem dX3_lend_71 : decode cX3_lend 71 = .ok (.iload_n 1, 1) := by decide +kernel
theorem dX3_lend_72 : decode cX3_lend 72 = .ok (.imul, 1) := by decide +kernel
theorem dX3_lend_73 : decode cX3_lend 73 = .ok (.aload_n 0, 1) := by decide +kernel
theorem dX3_lend_74 : decode cX3_lend 74 = .ok (.getfield 25, 3) := by decide +kernel
theorem dX3_lend_77 : decode cX3_lend 77 = .ok (.iload_n 1, 1) := by decide +kernel
theorem dX3_lend_78 : decode cX3_lend 78 = .ok (.iaload, 1) := by decide +kernel
theorem dX3_lend_79 : decode cX3_lend 79 = .ok (.iadd, 1) := by decide +kernel
theorem dX3_lend_80 : decode cX3_lend 80 = .ok (.istore 4, 2) := by decide +kernel
theorem dX3_lend_82 : decode cX3_lend 82 = .ok (.aload_n 0, 1) := by decide +kernel
theorem dX3_lend_83 : decode cX3_lend 83 = .ok (.getfield 28, 3) := by decide +kernel
theorem dX3_lend_86 : decode cX3_lend 86 = .ok (.iload 4, 2) := by decide +kernel
theorem dX3_lend_88 : decode cX3_lend 88 = .ok (.iload_n 2, 1) := by decide +kernel
theorem dX3_lend_89 : decode cX3_lend 89 = .ok (.iastore, 1) := by decide +kernel
theorem dX3_lend_90 : decode cX3_lend 90 = .ok (.aload_n 0, 1) := by decide +kernel
theorem dX3_lend_91 : decode cX3_lend 91 = .ok (.getfield 31, 3) := by decide +kernel
theorem dX3_lend_94 : decode cX3_lend 94 = .ok (.iload 4, 2) := by decide +kernel
theorem dX3_lend_96 : decode cX3_lend 96 = .ok (.aload_n 0, 1) := by decide +kernel
theorem dX3_lend_97 : decode cX3_lend 97 = .ok (.getfield 100, 3) := by decide +kernel
theorem dX3_lend_100 : decode cX3_lend 100 = .ok (.iastore, 1) := by decide +kernel
theorem dX3_lend_101 : decode cX3_lend 101 = .ok (.aload_n 0, 1) := by decide +kernel
theorem dX3_lend_102 : decode cX3_lend 102 = .ok (.getfield 34, 3) := by decide +kernel
theorem dX3_lend_105 : decode cX3_lend 105 = .ok (.iload 4, 2) := by decide +kernel
theorem dX3_lend_107 : decode cX3_lend 107 = .ok (.iconst (-1), 1) := by decide +kernel
theorem dX3_lend_108 : decode cX3_lend 108 = .ok (.iastore, 1) := by decide +kernel
theorem dX3_lend_109 : decode cX3_lend 109 = .ok (.aload_n 0, 1) := by decide +kernel
theorem dX3_lend_110 : decode cX3_lend 110 = .ok (.getfield 25, 3) := by decide +kernel
theorem dX3_lend_113 : decode cX3_lend 113 = .ok (.iload_n 1, 1) := by decide +kernel
theorem dX3_lend_114 : decode cX3_lend 114 = .ok (.dup2, 1) := by decide +kernel
theorem dX3_lend_115 : decode cX3_lend 115 = .ok (.iaload, 1) := by decide +kernel
theorem dX3_lend_116 : decode cX3_lend 116 = .ok (.iconst 1, 1) := by decide +kernel
theorem dX3_lend_117 : decode cX3_lend 117 = .ok (.iadd, 1) := by decide +kernel
theorem dX3_lend_118 : decode cX3_lend 118 = .ok (.iastore, 1) := by decide +kernel
theorem dX3_lend_119 : decode cX3_lend 119 = .ok (.aload_n 0, 1) := by decide +kernel
theorem dX3_lend_120 : decode cX3_lend 120 = .ok (.getfield 19, 3) := by decide +kernel
theorem dX3_lend_123 : decode cX3_lend 123 = .ok (.iload_n 1, 1) := by decide +kernel
theorem dX3_lend_124 : decode cX3_lend 124 = .ok (.iconst 1, 1) := by decide +kernel
theorem dX3_lend_125 : decode cX3_lend 125 = .ok (.iastore, 1) := by decide +kernel
theorem dX3_lend_126 : decode cX3_lend 126 = .ok (.aload_n 0, 1) := by decide +kernel
theorem dX3_lend_127 : decode cX3_lend 127 = .ok (.getfield 22, 3) := by decide +kernel
theorem dX3_lend_130 : decode cX3_lend 130 = .ok (.iload_n 1, 1) := by decide +kernel
theorem dX3_lend_131 : decode cX3_lend 131 = .ok (.aload_n 0, 1) := by decide +kernel
theorem dX3_lend_132 : decode cX3_lend 132 = .ok (.getfield 100, 3) := by decide +kernel
theorem dX3_lend_135 : decode cX3_lend 135 = .ok (.iload_n 3, 1) := by decide +kernel
theorem dX3_lend_136 : decode cX3_lend 136 = .ok (.iadd, 1) := by decide +kernel
theorem dX3_lend_137 : decode cX3_lend 137 = .ok (.iastore, 1) := by decide +kernel
theorem dX3_lend_138 : decode cX3_lend 138 = .ok (.aload_n 0, 1) := by decide +kernel
theorem dX3_lend_139 : decode cX3_lend 139 = .ok (.getfield 22, 3) := by decide +kernel
theorem dX3_lend_142 : decode cX3_lend 142 = .ok (.iload_n 1, 1) := by decide +kernel
theorem dX3_lend_143 : decode cX3_lend 143 = .ok (.iaload, 1) := by decide +kernel
theorem dX3_lend_144 : decode cX3_lend 144 = .ok (.ireturn, 1) := by decide +kernel
set_option maxRecDepth 20000 in
theorem ggX3_giveBack_X3_isCopy : GoodIn wsX3_giveBack wsX3_isCopy := goodIn_r _ [13, 14, 25, 26, 27, 28, 29, 30, 31, 32, 33, 34, 35, 36, 37, 38, 39] (by decide +kernel) (by decide +kernel)
set_option maxRecDepth 20000 in
theorem gX3_giveBack_X3_isCopy : GoodIn wsX3_giveBack (wsV RX3 103 RX3 yX3_isCopy wsX3_isCopy) := goodIn_app (goodIn_of _ (by decide +kernel)) ggX3_giveBack_X3_isCopy
set_option maxRecDepth 20000 in
theorem ggX3_giveBack_X3_fail : GoodIn wsX3_giveBack wsX3_fail := goodIn_r _ [18, 1, 25, 26, 27, 28, 29, 30, 31, 32, 33, 34, 35, 36, 37, 38, 39] (by decide +kernel) (by decide +kernel)
set_option maxRecDepth 20000 in
theorem gX3_giveBack_X3_fail : GoodIn wsX3_giveBack (wsV RX3 64 RX3 yX3_fail wsX3_fail) := goodIn_app (goodIn_of _ (by decide +kernel)) ggX3_giveBack_X3_fail
set_option maxRecDepth 20000 in
theorem ggX3_giveBack_X3_stop : GoodIn wsX3_giveBack wsX3_stop := goodIn_r _ [22, 2, 23, 24, 3, 25, 26, 27, 28, 29, 30, 31, 32, 33, 34, 35, 36, 37, 38, 39] (by decide +kernel) (by decide +kernel)
set_option maxRecDepth 20000 in
theorem gX3_giveBack_X3_stop : GoodIn wsX3_giveBack (wsV RX3 96 RX3 yX3_stop wsX3_stop) := goodIn_app (goodIn_of _ (by decide +kernel)) ggX3_giveBack_X3_stop
theorem dX3_giveBack_0 : decode cX3_giveBack 0 = .ok (.aload_n 0, 1) := by decide +kernel
theorem dX3_giveBack_1 : decode cX3_giveBack 1 = .ok (.iconst 0, 1) := by decide +kernel
theorem dX3_giveBack_2 : decode cX3_giveBack 2 = .ok (.putfield 37, 3) := by decide +kernel
theorem dX3_giveBack_5 : decode cX3_giveBack 5 = .ok (.aload_n 0, 1) := by decide +kernel
theorem dX3_giveBack_6 : decode cX3_giveBack 6 = .ok (.iload_n 1, 1) := by decide +kernel
theorem dX3_giveBack_7 : decode cX3_giveBack 7 = .ok (.invokevirtual 103, 3) := by decide +kernel
theorem dX3_giveBack_10 : decode cX3_giveBack 10 = .ok (.ifCond .ne 9, 3) := by decide +kernel
theorem dX3_giveBack_13 : decode cX3_giveBack 13 = .ok (.aload_n 0, 1) := by decide +kernel
theorem dX3_giveBack_14 : decode cX3_giveBack 14 = .ok (.iconst 1, 1) := by decide +kernel
theorem dX3_giveBack_15 : decode cX3_giveBack 15 = .ok (.invokevirtual 64, 3) := by decide +kernel
theorem dX3_giveBack_18 : decode cX3_giveBack 18 = .ok (.ireturn, 1) := by decide +kernel
theorem dX3_giveBack_19 : decode cX3_giveBack 19 = .ok (.aload_n 0, 1) := by decide +kernel
theorem dX3_giveBack_20 : decode cX3_giveBack 20 = .ok (.getfield 19, 3) := by decide +kernel
theorem dX3_giveBack_23 : decode cX3_giveBack 23 = .ok (.iload_n 1, 1) := by decide +kernel
theorem dX3_giveBack_24 : decode cX3_giveBack 24 = .ok (.iaload, 1) := by decide +kernel
theorem dX3_giveBack_25 : decode cX3_giveBack 25 = .ok (.iconst 1, 1) := by decide +kernel
theorem dX3_giveBack_26 : decode cX3_giveBack 26 = .ok (.if_icmp .eq 9, 3) := by decide +kernel
theorem dX3_giveBack_29 : decode cX3_giveBack 29 = .ok (.aload_n 0, 1) := by decide +kernel
theorem dX3_giveBack_30 : decode cX3_giveBack 30 = .ok (.iconst 2, 1) := by decide +kernel
theorem dX3_giveBack_31 : decode cX3_giveBack 31 = .ok (.invokevirtual 64, 3) := by decide +kernel
theorem dX3_giveBack_34 : decode cX3_giveBack 34 = .ok (.ireturn, 1) := by decide +kernel
theorem dX3_giveBack_35 : decode cX3_giveBack 35 = .ok (.aload_n 0, 1) := by decide +kernel
theorem dX3_giveBack_36 : decode cX3_giveBack 36 = .ok (.iload_n 1, 1) := by decide +kernel
theorem dX3_giveBack_37 : decode cX3_giveBack 37 = .ok (.invokevirtual 96, 3) := by decide +kernel
theorem dX3_giveBack_40 : decode cX3_giveBack 40 = .ok (.aload_n 0, 1) := by decide +kernel
theorem dX3_giveBack_41 : decode cX3_giveBack 41 = .ok (.getfield 19, 3) := by decide +kernel
theorem dX3_giveBack_44 : decode cX3_giveBack 44 = .ok (.iload_n 1, 1) := by decide +kernel
theorem dX3_giveBack_45 : decode cX3_giveBack 45 = .ok (.iconst 0, 1) := by decide +kernel
theorem dX3_giveBack_46 : decode cX3_giveBack 46 = .ok (.iastore, 1) := by decide +kernel
theorem dX3_giveBack_47 : decode cX3_giveBack 47 = .ok (.iconst 0, 1) := by decide +kernel
theorem dX3_giveBack_48 : decode cX3_giveBack 48 = .ok (.aload_n 0, 1) := by decide +kernel
theorem dX3_giveBack_49 : decode cX3_giveBack 49 = .ok (.getfield 100, 3) := by decide +kernel
theorem dX3_giveBack_52 : decode cX3_giveBack 52 = .ok (.aload_n 0, 1) := by decide +kernel
theorem dX3_giveBack_53 : decode cX3_giveBack 53 = .ok (.getfield 22, 3) := by decide +kernel
theorem dX3_giveBack_56 : decode cX3_giveBack 56 = .ok (.iload_n 1, 1) := by decide +kernel
theorem dX3_giveBack_57 : decode cX3_giveBack 57 = .ok (.iaload, 1) := by decide +kernel
theorem dX3_giveBack_58 : decode cX3_giveBack 58 = .ok (.isub, 1) := by decide +kernel
theorem dX3_giveBack_59 : decode cX3_giveBack 59 = .ok (.invokestatic 109, 3) := by decide +kernel
theorem dX3_giveBack_62 : decode cX3_giveBack 62 = .ok (.ireturn, 1) := by decide +kernel
set_option maxRecDepth 20000 in
theorem ggX3_riskyDoors_X3_doorsOf : GoodIn wsX3_riskyDoors wsX3_doorsOf := goodIn_r _ [9, 10, 11, 12, 13, 8, 14, 15, 16, 17, 18, 19, 20, 3, 21, 22, 23, 24, 25, 26, 27, 28, 29, 30, 31, 32, 33, 34, 35, 36, 37, 38, 39, 40, 41] (by decide +kernel) (by decide +kernel)
set_option maxRecDepth 20000 in
theorem gX3_riskyDoors_X3_doorsOf : GoodIn wsX3_riskyDoors (wsV RX3 89 RX3 yX3_doorsOf wsX3_doorsOf) := goodIn_app (goodIn_of _ (by decide +kernel)) ggX3_riskyDoors_X3_doorsOf
theorem dX3_riskyDoors_0 : decode cX3_riskyDoors 0 = .ok (.iconst 0, 1) := by decide +kernel
theorem dX3_riskyDoors_1 : decode cX3_riskyDoors 1 = .ok (.istore_n 1, 1) := by decide +kernel
theorem dX3_riskyDoors_2 : decode cX3_riskyDoors 2 = .ok (.iconst 0, 1) := by decide +kernel
theorem dX3_riskyDoors_3 : decode cX3_riskyDoors 3 = .ok (.istore_n 2, 1) := by decide +kernel
theorem dX3_riskyDoors_4 : decode cX3_riskyDoors 4 = .ok (.iload_n 2, 1) := by decide +kernel
theorem dX3_riskyDoors_5 : decode cX3_riskyDoors 5 = .ok (.aload_n 0, 1) := by decide +kernel
theorem dX3_riskyDoors_6 : decode cX3_riskyDoors 6 = .ok (.getfield 47, 3) := by decide +kernel
theorem dX3_riskyDoors_9 : decode cX3_riskyDoors 9 = .ok (.if_icmp .ge 37, 3) := by decide +kernel
theorem dX3_riskyDoors_12 : decode cX3_riskyDoors 12 = .ok (.aload_n 0, 1) := by decide +kernel
theorem dX3_riskyDoors_13 : decode cX3_riskyDoors 13 = .ok (.getfield 19, 3) := by decide +kernel
theorem dX3_riskyDoors_16 : decode cX3_riskyDoors 16 = .ok (.iload_n 2, 1) := by decide +kernel
theorem dX3_riskyDoors_17 : decode cX3_riskyDoors 17 = .ok (.iaload, 1) := by decide +kernel
theorem dX3_riskyDoors_18 : decode cX3_riskyDoors 18 = .ok (.iconst 2, 1) := by decide +kernel
theorem dX3_riskyDoors_19 : decode cX3_riskyDoors 19 = .ok (.if_icmp .ne 21, 3) := by decide +kernel
theorem dX3_riskyDoors_22 : decode cX3_riskyDoors 22 = .ok (.iload_n 1, 1) := by decide +kernel
theorem dX3_riskyDoors_23 : decode cX3_riskyDoors 23 = .ok (.aload_n 0, 1) := by decide +kernel
theorem dX3_riskyDoors_24 : decode cX3_riskyDoors 24 = .ok (.aload_n 0, 1) := by decide +kernel
theorem dX3_riskyDoors_25 : decode cX3_riskyDoors 25 = .ok (.getfield 9, 3) := by decide +kernel
theorem dX3_riskyDoors_28 : decode cX3_riskyDoors 28 = .ok (.aload_n 0, 1) := by decide +kernel
theorem dX3_riskyDoors_29 : decode cX3_riskyDoors 29 = .ok (.getfield 16, 3) := by decide +kernel
theorem dX3_riskyDoors_32 : decode cX3_riskyDoors 32 = .ok (.iload_n 2, 1) := by decide +kernel
theorem dX3_riskyDoors_33 : decode cX3_riskyDoors 33 = .ok (.iaload, 1) := by decide +kernel
theorem dX3_riskyDoors_34 : decode cX3_riskyDoors 34 = .ok (.iaload, 1) := by decide +kernel
theorem dX3_riskyDoors_35 : decode cX3_riskyDoors 35 = .ok (.invokevirtual 89, 3) := by decide +kernel
theorem dX3_riskyDoors_38 : decode cX3_riskyDoors 38 = .ok (.ior, 1) := by decide +kernel
theorem dX3_riskyDoors_39 : decode cX3_riskyDoors 39 = .ok (.istore_n 1, 1) := by decide +kernel
theorem dX3_riskyDoors_40 : decode cX3_riskyDoors 40 = .ok (.iinc 2 1, 3) := by decide +kernel
theorem dX3_riskyDoors_43 : decode cX3_riskyDoors 43 = .ok (.goto (-39), 3) := by decide +kernel
theorem dX3_riskyDoors_46 : decode cX3_riskyDoors 46 = .ok (.iload_n 1, 1) := by decide +kernel
theorem dX3_riskyDoors_47 : decode cX3_riskyDoors 47 = .ok (.ireturn, 1) := by decide +kernel
set_option maxRecDepth 20000 in
theorem ggX3_lose_X3_isCopy : GoodIn wsX3_lose wsX3_isCopy := goodIn_r _ [9, 10, 43, 44, 45, 46, 47, 48, 49, 50, 51, 52, 53, 54, 55, 56, 57] (by decide +kernel) (by decide +kernel)
set_option maxRecDepth 20000 in
theorem gX3_lose_X3_isCopy : GoodIn wsX3_lose (wsV RX3 103 RX3 yX3_isCopy wsX3_isCopy) := goodIn_app (goodIn_of _ (by decide +kernel)) ggX3_lose_X3_isCopy
set_option maxRecDepth 20000 in
theorem ggX3_lose_X3_fail : GoodIn wsX3_lose wsX3_fail := goodIn_r _ [14, 1, 43, 44, 45, 46, 47, 48, 49, 50, 51, 52, 53, 54, 55, 56, 57] (by decide +kernel) (by decide +kernel)
set_option maxRecDepth 20000 in
theorem gX3_lose_X3_fail : GoodIn wsX3_lose (wsV RX3 64 RX3 yX3_fail wsX3_fail) := goodIn_app (goodIn_of _ (by decide +kernel)) ggX3_lose_X3_fail
set_option maxRecDepth 20000 in
theorem ggX3_lose_X3_stop : GoodIn wsX3_lose wsX3_stop := goodIn_r _ [18, 2, 19, 20, 21, 43, 44, 45, 46, 47, 48, 49, 50, 51, 52, 53, 54, 55, 56, 57] (by decide +kernel) (by decide +kernel)
set_option maxRecDepth 20000 in
theorem gX3_lose_X3_stop : GoodIn wsX3_lose (wsV RX3 96 RX3 yX3_stop wsX3_stop) := goodIn_app (goodIn_of _ (by decide +kernel)) ggX3_lose_X3_stop
set_option maxRecDepth 20000 in
theorem ggX3_lose_X3_doorsOf : GoodIn wsX3_lose wsX3_doorsOf := goodIn_r _ [25, 26, 27, 28, 29, 8, 30, 31, 32, 33, 34, 35, 36, 3, 37, 38, 39, 40, 41, 42, 43, 44, 45, 46, 47, 48, 49, 50, 51, 52, 53, 54, 55, 56, 57] (by decide +kernel) (by decide +kernel)
set_option maxRecDepth 20000 in
theorem gX3_lose_X3_doorsOf : GoodIn wsX3_lose (wsV RX3 89 RX3 yX3_doorsOf wsX3_doorsOf) := goodIn_app (goodIn_of _ (by decide +kernel)) ggX3_lose_X3_doorsOf
theorem dX3_lose_0 : decode cX3_lose 0 = .ok (.aload_n 0, 1) := by decide +kernel
theorem dX3_lose_1 : decode cX3_lose 1 = .ok (.iconst 0, 1) := by decide +kernel
theorem dX3_lose_2 : decode cX3_lose 2 = .ok (.putfield 37, 3) := by decide +kernel
theorem dX3_lose_5 : decode cX3_lose 5 = .ok (.aload_n 0, 1) := by decide +kernel
theorem dX3_lose_6 : decode cX3_lose 6 = .ok (.iload_n 1, 1) := by decide +kernel
theorem dX3_lose_7 : decode cX3_lose 7 = .ok (.invokevirtual 103, 3) := by decide +kernel
theorem dX3_lose_10 : decode cX3_lose 10 = .ok (.ifCond .ne 9, 3) := by decide +kernel
theorem dX3_lose_13 : decode cX3_lose 13 = .ok (.aload_n 0, 1) := by decide +kernel
theorem dX3_lose_14 : decode cX3_lose 14 = .ok (.iconst 1, 1) := by decide +kernel
theorem dX3_lose_15 : decode cX3_lose 15 = .ok (.invokevirtual 64, 3) := by decide +kernel
theorem dX3_lose_18 : decode cX3_lose 18 = .ok (.ireturn, 1) := by decide +kernel
theorem dX3_lose_19 : decode cX3_lose 19 = .ok (.aload_n 0, 1) := by decide +kernel
theorem dX3_lose_20 : decode cX3_lose 20 = .ok (.getfield 19, 3) := by decide +kernel
theorem dX3_lose_23 : decode cX3_lose 23 = .ok (.iload_n 1, 1) := by decide +kernel
theorem dX3_lose_24 : decode cX3_lose 24 = .ok (.iaload, 1) := by decide +kernel
theorem dX3_lose_25 : decode cX3_lose 25 = .ok (.iconst 2, 1) := by decide +kernel
theorem dX3_lose_26 : decode cX3_lose 26 = .ok (.if_icmp .eq 13, 3) := by decide +kernel
theorem dX3_lose_29 : decode cX3_lose 29 = .ok (.aload_n 0, 1) := by decide +kernel
theorem dX3_lose_30 : decode cX3_lose 30 = .ok (.getfield 19, 3) := by decide +kernel
theorem dX3_lose_33 : decode cX3_lose 33 = .ok (.iload_n 1, 1) := by decide +kernel
theorem dX3_lose_34 : decode cX3_lose 34 = .ok (.iaload, 1) := by decide +kernel
theorem dX3_lose_35 : decode cX3_lose 35 = .ok (.iconst 3, 1) := by decide +kernel
theorem dX3_lose_36 : decode cX3_lose 36 = .ok (.if_icmp .ne 9, 3) := by decide +kernel
theorem dX3_lose_39 : decode cX3_lose 39 = .ok (.aload_n 0, 1) := by decide +kernel
theorem dX3_lose_40 : decode cX3_lose 40 = .ok (.iconst 2, 1) := by decide +kernel
theorem dX3_lose_41 : decode cX3_lose 41 = .ok (.invokevirtual 64, 3) := by decide +kernel
theorem dX3_lose_44 : decode cX3_lose 44 = .ok (.ireturn, 1) := by decide +kernel
theorem dX3_lose_45 : decode cX3_lose 45 = .ok (.aload_n 0, 1) := by decide +kernel
theorem dX3_lose_46 : decode cX3_lose 46 = .ok (.iload_n 1, 1) := by decide +kernel
theorem dX3_lose_47 : decode cX3_lose 47 = .ok (.invokevirtual 96, 3) := by decide +kernel
theorem dX3_lose_50 : decode cX3_lose 50 = .ok (.aload_n 0, 1) := by decide +kernel
theorem dX3_lose_51 : decode cX3_lose 51 = .ok (.getfield 19, 3) := by decide +kernel
theorem dX3_lose_54 : decode cX3_lose 54 = .ok (.iload_n 1, 1) := by decide +kernel
theorem dX3_lose_55 : decode cX3_lose 55 = .ok (.iconst 2, 1) := by decide +kernel
theorem dX3_lose_56 : decode cX3_lose 56 = .ok (.iastore, 1) := by decide +kernel
theorem dX3_lose_57 : decode cX3_lose 57 = .ok (.aload_n 0, 1) := by decide +kernel
theorem dX3_lose_58 : decode cX3_lose 58 = .ok (.aload_n 0, 1) := by decide +kernel
theorem dX3_lose_59 : decode cX3_lose 59 = .ok (.getfield 9, 3) := by decide +kernel
theorem dX3_lose_62 : decode cX3_lose 62 = .ok (.aload_n 0, 1) := by decide +kernel
theorem dX3_lose_63 : decode cX3_lose 63 = .ok (.getfield 16, 3) := by decide +kernel
theorem dX3_lose_66 : decode cX3_lose 66 = .ok (.iload_n 1, 1) := by decide +kernel
theorem dX3_lose_67 : decode cX3_lose 67 = .ok (.iaload, 1) := by decide +kernel
theorem dX3_lose_68 : decode cX3_lose 68 = .ok (.iaload, 1) := by decide +kernel
theorem dX3_lose_69 : decode cX3_lose 69 = .ok (.invokevirtual 89, 3) := by decide +kernel
theorem dX3_lose_72 : decode cX3_lose 72 = .ok (.ireturn, 1) := by decide +kernel
set_option maxRecDepth 20000 in
theorem ggX3_find_X3_isCopy : GoodIn wsX3_find wsX3_isCopy := goodIn_r _ [7, 8, 40, 41, 42, 43, 44, 45, 46, 47, 48, 49, 50, 51, 52, 53, 54] (by decide +kernel) (by decide +kernel)
set_option maxRecDepth 20000 in
theorem gX3_find_X3_isCopy : GoodIn wsX3_find (wsV RX3 103 RX3 yX3_isCopy wsX3_isCopy) := goodIn_app (goodIn_of _ (by decide +kernel)) ggX3_find_X3_isCopy
set_option maxRecDepth 20000 in
theorem ggX3_find_X3_fail : GoodIn wsX3_find wsX3_fail := goodIn_r _ [12, 1, 40, 41, 42, 43, 44, 45, 46, 47, 48, 49, 50, 51, 52, 53, 54] (by decide +kernel) (by decide +kernel)
set_option maxRecDepth 20000 in
theorem gX3_find_X3_fail : GoodIn wsX3_find (wsV RX3 64 RX3 yX3_fail wsX3_fail) := goodIn_app (goodIn_of _ (by decide +kernel)) ggX3_find_X3_fail
set_option maxRecDepth 20000 in
theorem ggX3_find_X3_riskyDoors : GoodIn wsX3_find wsX3_riskyDoors := goodIn_r _ [16, 8, 2, 17, 18, 19, 20, 21, 6, 22, 23, 24, 25, 26, 27, 28, 29, 30, 31, 32, 33, 34, 35, 36, 37, 38, 39, 40, 41, 42, 43, 44, 45, 46, 47, 48, 49, 50, 51, 52, 53, 54] (by decide +kernel) (by decide +kernel)
set_option maxRecDepth 20000 in
theorem gX3_find_X3_riskyDoors : GoodIn wsX3_find (wsV RX3 114 RX3 yX3_riskyDoors wsX3_riskyDoors) := goodIn_app (goodIn_of _ (by decide +kernel)) ggX3_find_X3_riskyDoors
theorem dX3_find_0 : decode cX3_find 0 = .ok (.aload_n 0, 1) := by decide +kernel
theorem dX3_find_1 : decode cX3_find 1 = .ok (.iconst 0, 1) := by decide +kernel
theorem dX3_find_2 : decode cX3_find 2 = .ok (.putfield 37, 3) := by decide +kernel
theorem dX3_find_5 : decode cX3_find 5 = .ok (.aload_n 0, 1) := by decide +kernel
theorem dX3_find_6 : decode cX3_find 6 = .ok (.iload_n 1, 1) := by decide +kernel
theorem dX3_find_7 : decode cX3_find 7 = .ok (.invokevirtual 103, 3) := by decide +kernel
theorem dX3_find_10 : decode cX3_find 10 = .ok (.ifCond .ne 9, 3) := by decide +kernel
theorem dX3_find_13 : decode cX3_find 13 = .ok (.aload_n 0, 1) := by decide +kernel
theorem dX3_find_14 : decode cX3_find 14 = .ok (.iconst 1, 1) := by decide +kernel
theorem dX3_find_15 : decode cX3_find 15 = .ok (.invokevirtual 64, 3) := by decide +kernel
theorem dX3_find_18 : decode cX3_find 18 = .ok (.ireturn, 1) := by decide +kernel
theorem dX3_find_19 : decode cX3_find 19 = .ok (.aload_n 0, 1) := by decide +kernel
theorem dX3_find_20 : decode cX3_find 20 = .ok (.getfield 19, 3) := by decide +kernel
theorem dX3_find_23 : decode cX3_find 23 = .ok (.iload_n 1, 1) := by decide +kernel
theorem dX3_find_24 : decode cX3_find 24 = .ok (.iaload, 1) := by decide +kernel
theorem dX3_find_25 : decode cX3_find 25 = .ok (.iconst 2, 1) := by decide +kernel
theorem dX3_find_26 : decode cX3_find 26 = .ok (.if_icmp .eq 9, 3) := by decide +kernel
theorem dX3_find_29 : decode cX3_find 29 = .ok (.aload_n 0, 1) := by decide +kernel
theorem dX3_find_30 : decode cX3_find 30 = .ok (.iconst 2, 1) := by decide +kernel
theorem dX3_find_31 : decode cX3_find 31 = .ok (.invokevirtual 64, 3) := by decide +kernel
theorem dX3_find_34 : decode cX3_find 34 = .ok (.ireturn, 1) := by decide +kernel
theorem dX3_find_35 : decode cX3_find 35 = .ok (.aload_n 0, 1) := by decide +kernel
theorem dX3_find_36 : decode cX3_find 36 = .ok (.getfield 19, 3) := by decide +kernel
theorem dX3_find_39 : decode cX3_find 39 = .ok (.iload_n 1, 1) := by decide +kernel
theorem dX3_find_40 : decode cX3_find 40 = .ok (.iconst 0, 1) := by decide +kernel
theorem dX3_find_41 : decode cX3_find 41 = .ok (.iastore, 1) := by decide +kernel
theorem dX3_find_42 : decode cX3_find 42 = .ok (.aload_n 0, 1) := by decide +kernel
theorem dX3_find_43 : decode cX3_find 43 = .ok (.invokevirtual 114, 3) := by decide +kernel
theorem dX3_find_46 : decode cX3_find 46 = .ok (.ireturn, 1) := by decide +kernel
set_option maxRecDepth 20000 in
theorem ggX3_pass_X3_fail : GoodIn wsX3_pass wsX3_fail := goodIn_r _ [7, 1, 8, 9, 10, 11, 12, 13, 14, 15, 16, 17, 18, 19, 20, 21, 22] (by decide +kernel) (by decide +kernel)
set_option maxRecDepth 20000 in
theorem gX3_pass_X3_fail : GoodIn wsX3_pass (wsV RX3 64 RX3 yX3_fail wsX3_fail) := goodIn_app (goodIn_of _ (by decide +kernel)) ggX3_pass_X3_fail
theorem dX3_pass_0 : decode cX3_pass 0 = .ok (.aload_n 0, 1) := by decide +kernel
theorem dX3_pass_1 : decode cX3_pass 1 = .ok (.iconst 0, 1) := by decide +kernel
theorem dX3_pass_2 : decode cX3_pass 2 = .ok (.putfield 37, 3) := by decide +kernel
theorem dX3_pass_5 : decode cX3_pass 5 = .ok (.iload_n 1, 1) := by decide +kernel
theorem dX3_pass_6 : decode cX3_pass 6 = .ok (.iconst 1, 1) := by decide +kernel
theorem dX3_pass_7 : decode cX3_pass 7 = .ok (.if_icmp .lt 9, 3) := by decide +kernel
theorem dX3_pass_10 : decode cX3_pass 10 = .ok (.iload_n 1, 1) := by decide +kernel
theorem dX3_pass_11 : decode cX3_pass 11 = .ok (.bipush 99, 2) := by decide +kernel
theorem dX3_pass_13 : decode cX3_pass 13 = .ok (.if_icmp .le 9, 3) := by decide +kernel
theorem dX3_pass_16 : decode cX3_pass 16 = .ok (.aload_n 0, 1) := by decide +kernel
theorem dX3_pass_17 : decode cX3_pass 17 = .ok (.iconst 1, 1) := by decide +kernel
theorem dX3_pass_18 : decode cX3_pass 18 = .ok (.invokevirtual 64, 3) := by decide +kernel
theorem dX3_pass_21 : decode cX3_pass 21 = .ok (.ireturn, 1) := by decide +kernel
theorem dX3_pass_22 : decode cX3_pass 22 = .ok (.aload_n 0, 1) := by decide +kernel
theorem dX3_pass_23 : decode cX3_pass 23 = .ok (.getfield 100, 3) := by decide +kernel
theorem dX3_pass_26 : decode cX3_pass 26 = .ok (.iload_n 1, 1) := by decide +kernel
theorem dX3_pass_27 : decode cX3_pass 27 = .ok (.iadd, 1) := by decide +kernel
theorem dX3_pass_28 : decode cX3_pass 28 = .ok (.sipush 9999, 3) := by decide +kernel
theorem dX3_pass_31 : decode cX3_pass 31 = .ok (.if_icmp .le 9, 3) := by decide +kernel
theorem dX3_pass_34 : decode cX3_pass 34 = .ok (.aload_n 0, 1) := by decide +kernel
theorem dX3_pass_35 : decode cX3_pass 35 = .ok (.iconst 2, 1) := by decide +kernel
theorem dX3_pass_36 : decode cX3_pass 36 = .ok (.invokevirtual 64, 3) := by decide +kernel
theorem dX3_pass_39 : decode cX3_pass 39 = .ok (.ireturn, 1) := by decide +kernel
theorem dX3_pass_40 : decode cX3_pass 40 = .ok (.aload_n 0, 1) := by decide +kernel
theorem dX3_pass_41 : decode cX3_pass 41 = .ok (.dup, 1) := by decide +kernel
theorem dX3_pass_42 : decode cX3_pass 42 = .ok (.getfield 100, 3) := by decide +kernel
theorem dX3_pass_45 : decode cX3_pass 45 = .ok (.iload_n 1, 1) := by decide +kernel
theorem dX3_pass_46 : decode cX3_pass 46 = .ok (.iadd, 1) := by decide +kernel
theorem dX3_pass_47 : decode cX3_pass 47 = .ok (.putfield 100, 3) := by decide +kernel
theorem dX3_pass_50 : decode cX3_pass 50 = .ok (.aload_n 0, 1) := by decide +kernel
theorem dX3_pass_51 : decode cX3_pass 51 = .ok (.getfield 100, 3) := by decide +kernel
theorem dX3_pass_54 : decode cX3_pass 54 = .ok (.ireturn, 1) := by decide +kernel
theorem dX3_today_0 : decode cX3_today 0 = .ok (.aload_n 0, 1) := by decide +kernel
theorem dX3_today_1 : decode cX3_today 1 = .ok (.iconst 0, 1) := by decide +kernel
theorem dX3_today_2 : decode cX3_today 2 = .ok (.putfield 37, 3) := by decide +kernel
theorem dX3_today_5 : decode cX3_today 5 = .ok (.aload_n 0, 1) := by decide +kernel
theorem dX3_today_6 : decode cX3_today 6 = .ok (.getfield 100, 3) := by decide +kernel
theorem dX3_today_9 : decode cX3_today 9 = .ok (.ireturn, 1) := by decide +kernel
theorem dX3_copyCount_0 : decode cX3_copyCount 0 = .ok (.aload_n 0, 1) := by decide +kernel
theorem dX3_copyCount_1 : decode cX3_copyCount 1 = .ok (.iconst 0, 1) := by decide +kernel
theorem dX3_copyCount_2 : decode cX3_copyCount 2 = .ok (.putfield 37, 3) := by decide +kernel
theorem dX3_copyCount_5 : decode cX3_copyCount 5 = .ok (.aload_n 0, 1) := by decide +kernel
theorem dX3_copyCount_6 : decode cX3_copyCount 6 = .ok (.getfield 47, 3) := by decide +kernel
theorem dX3_copyCount_9 : decode cX3_copyCount 9 = .ok (.ireturn, 1) := by decide +kernel
theorem dX3_told_0 : decode cX3_told 0 = .ok (.aload_n 0, 1) := by decide +kernel
theorem dX3_told_1 : decode cX3_told 1 = .ok (.getfield 19, 3) := by decide +kernel
theorem dX3_told_4 : decode cX3_told 4 = .ok (.iload_n 1, 1) := by decide +kernel
theorem dX3_told_5 : decode cX3_told 5 = .ok (.iaload, 1) := by decide +kernel
theorem dX3_told_6 : decode cX3_told 6 = .ok (.iconst 1, 1) := by decide +kernel
theorem dX3_told_7 : decode cX3_told 7 = .ok (.if_icmp .ne 7, 3) := by decide +kernel
theorem dX3_told_10 : decode cX3_told 10 = .ok (.iconst 1, 1) := by decide +kernel
theorem dX3_told_11 : decode cX3_told 11 = .ok (.goto 4, 3) := by decide +kernel
theorem dX3_told_14 : decode cX3_told 14 = .ok (.iconst 0, 1) := by decide +kernel
theorem dX3_told_15 : decode cX3_told 15 = .ok (.istore_n 3, 1) := by decide +kernel
theorem dX3_told_16 : decode cX3_told 16 = .ok (.iload_n 2, 1) := by decide +kernel
theorem dX3_told_17 : decode cX3_told 17 = .ok (.tableswitch 87 0 3 #[31, 38, 45, 72], 31) := by decide +kernel
theorem dX3_told_48 : decode cX3_told 48 = .ok (.aload_n 0, 1) := by decide +kernel
theorem dX3_told_49 : decode cX3_told 49 = .ok (.getfield 16, 3) := by decide +kernel
theorem dX3_told_52 : decode cX3_told 52 = .ok (.iload_n 1, 1) := by decide +kernel
theorem dX3_told_53 : decode cX3_told 53 = .ok (.iaload, 1) := by decide +kernel
theorem dX3_told_54 : decode cX3_told 54 = .ok (.ireturn, 1) := by decide +kernel
theorem dX3_told_55 : decode cX3_told 55 = .ok (.aload_n 0, 1) := by decide +kernel
theorem dX3_told_56 : decode cX3_told 56 = .ok (.getfield 19, 3) := by decide +kernel
theorem dX3_told_59 : decode cX3_told 59 = .ok (.iload_n 1, 1) := by decide +kernel
theorem dX3_told_60 : decode cX3_told 60 = .ok (.iaload, 1) := by decide +kernel
theorem dX3_told_61 : decode cX3_told 61 = .ok (.ireturn, 1) := by decide +kernel
theorem dX3_told_62 : decode cX3_told 62 = .ok (.iload_n 3, 1) := by decide +kernel
theorem dX3_told_63 : decode cX3_told 63 = .ok (.ifCond .eq 24, 3) := by decide +kernel
theorem dX3_told_66 : decode cX3_told 66 = .ok (.aload_n 0, 1) := by decide +kernel
theorem dX3_told_67 : decode cX3_told 67 = .ok (.getfield 28, 3) := by decide +kernel
theorem dX3_told_70 : decode cX3_told 70 = .ok (.bipush 9, 2) := by decide +kernel
theorem dX3_told_72 : decode cX3_told 72 = .ok (.iload_n 1, 1) := by decide +kernel
theorem dX3_told_73 : decode cX3_told 73 = .ok (.imul, 1) := by decide +kernel
theorem dX3_told_74 : decode cX3_told 74 = .ok (.aload_n 0, 1) := by decide +kernel
theorem dX3_told_75 : decode cX3_told 75 = .ok (.getfield 25, 3) := by decide +kernel
theorem dX3_told_78 : decode cX3_told 78 = .ok (.iload_n 1, 1) := by decide +kernel
theorem dX3_told_79 : decode cX3_told 79 = .ok (.iaload, 1) := by decide +kernel
theorem dX3_told_80 : decode cX3_told 80 = .ok (.iadd, 1) := by decide +kernel
theorem dX3_told_81 : decode cX3_told 81 = .ok (.iconst 1, 1) := by decide +kernel
theorem dX3_told_82 : decode cX3_told 82 = .ok (.isub, 1) := by decide +kernel
theorem dX3_told_83 : decode cX3_told 83 = .ok (.iaload, 1) := by decide +kernel
theorem dX3_told_84 : decode cX3_told 84 = .ok (.goto 4, 3) := by decide +kernel
theorem dX3_told_87 : decode cX3_told 87 = .ok (.iconst (-1), 1) := by decide +kernel
theorem dX3_told_88 : decode cX3_told 88 = .ok (.ireturn, 1) := by decide +kernel
theorem dX3_told_89 : decode cX3_told 89 = .ok (.iload_n 3, 1) := by decide +kernel
theorem dX3_told_90 : decode cX3_told 90 = .ok (.ifCond .eq 12, 3) := by decide +kernel
theorem dX3_told_93 : decode cX3_told 93 = .ok (.aload_n 0, 1) := by decide +kernel
theorem dX3_told_94 : decode cX3_told 94 = .ok (.getfield 22, 3) := by decide +kernel
theorem dX3_told_97 : decode cX3_told 97 = .ok (.iload_n 1, 1) := by decide +kernel
theorem dX3_told_98 : decode cX3_told 98 = .ok (.iaload, 1) := by decide +kernel
theorem dX3_told_99 : decode cX3_told 99 = .ok (.goto 4, 3) := by decide +kernel
theorem dX3_told_102 : decode cX3_told 102 = .ok (.iconst (-1), 1) := by decide +kernel
theorem dX3_told_103 : decode cX3_told 103 = .ok (.ireturn, 1) := by decide +kernel
theorem dX3_told_104 : decode cX3_told 104 = .ok (.aload_n 0, 1) := by decide +kernel
theorem dX3_told_105 : decode cX3_told 105 = .ok (.getfield 25, 3) := by decide +kernel
theorem dX3_told_108 : decode cX3_told 108 = .ok (.iload_n 1, 1) := by decide +kernel
theorem dX3_told_109 : decode cX3_told 109 = .ok (.iaload, 1) := by decide +kernel
theorem dX3_told_110 : decode cX3_told 110 = .ok (.ireturn, 1) := by decide +kernel
set_option maxRecDepth 20000 in
theorem ggX3_copy_X3_isCopy : GoodIn wsX3_copy wsX3_isCopy := goodIn_r _ [6, 7, 21, 22, 23, 24, 25, 26, 27, 28, 29, 30, 31, 32, 33, 34, 35] (by decide +kernel) (by decide +kernel)
set_option maxRecDepth 20000 in
theorem gX3_copy_X3_isCopy : GoodIn wsX3_copy (wsV RX3 103 RX3 yX3_isCopy wsX3_isCopy) := goodIn_app (goodIn_of _ (by decide +kernel)) ggX3_copy_X3_isCopy
set_option maxRecDepth 20000 in
theorem ggX3_copy_X3_told : GoodIn wsX3_copy wsX3_told := goodIn_r _ [11, 12, 13, 14, 15, 16, 21, 22, 23, 24, 25, 26, 27, 28, 29, 30, 31, 32, 33, 34, 35] (by decide +kernel) (by decide +kernel)
set_option maxRecDepth 20000 in
theorem gX3_copy_X3_told : GoodIn wsX3_copy (wsV RX3 117 RX3 yX3_told wsX3_told) := goodIn_app (goodIn_of _ (by decide +kernel)) ggX3_copy_X3_told
set_option maxRecDepth 20000 in
theorem ggX3_copy_X3_fail : GoodIn wsX3_copy wsX3_fail := goodIn_r _ [20, 1, 21, 22, 23, 24, 25, 26, 27, 28, 29, 30, 31, 32, 33, 34, 35] (by decide +kernel) (by decide +kernel)
set_option maxRecDepth 20000 in
theorem gX3_copy_X3_fail : GoodIn wsX3_copy (wsV RX3 64 RX3 yX3_fail wsX3_fail) := goodIn_app (goodIn_of _ (by decide +kernel)) ggX3_copy_X3_fail
theorem dX3_copy_0 : decode cX3_copy 0 = .ok (.aload_n 0, 1) := by decide +kernel
theorem dX3_copy_1 : decode cX3_copy 1 = .ok (.iconst 0, 1) := by decide +kernel
theorem dX3_copy_2 : decode cX3_copy 2 = .ok (.putfield 37, 3) := by decide +kernel
theorem dX3_copy_5 : decode cX3_copy 5 = .ok (.aload_n 0, 1) := by decide +kernel
theorem dX3_copy_6 : decode cX3_copy 6 = .ok (.iload_n 1, 1) := by decide +kernel
theorem dX3_copy_7 : decode cX3_copy 7 = .ok (.invokevirtual 103, 3) := by decide +kernel
theorem dX3_copy_10 : decode cX3_copy 10 = .ok (.ifCond .eq 21, 3) := by decide +kernel
theorem dX3_copy_13 : decode cX3_copy 13 = .ok (.iload_n 2, 1) := by decide +kernel
theorem dX3_copy_14 : decode cX3_copy 14 = .ok (.ifCond .lt 17, 3) := by decide +kernel
theorem dX3_copy_17 : decode cX3_copy 17 = .ok (.iload_n 2, 1) := by decide +kernel
theorem dX3_copy_18 : decode cX3_copy 18 = .ok (.iconst 4, 1) := by decide +kernel
theorem dX3_copy_19 : decode cX3_copy 19 = .ok (.if_icmp .gt 12, 3) := by decide +kernel
theorem dX3_copy_22 : decode cX3_copy 22 = .ok (.aload_n 0, 1) := by decide +kernel
theorem dX3_copy_23 : decode cX3_copy 23 = .ok (.iload_n 1, 1) := by decide +kernel
theorem dX3_copy_24 : decode cX3_copy 24 = .ok (.iload_n 2, 1) := by decide +kernel
theorem dX3_copy_25 : decode cX3_copy 25 = .ok (.invokevirtual 117, 3) := by decide +kernel
theorem dX3_copy_28 : decode cX3_copy 28 = .ok (.goto 8, 3) := by decide +kernel
theorem dX3_copy_31 : decode cX3_copy 31 = .ok (.aload_n 0, 1) := by decide +kernel
theorem dX3_copy_32 : decode cX3_copy 32 = .ok (.iconst 1, 1) := by decide +kernel
theorem dX3_copy_33 : decode cX3_copy 33 = .ok (.invokevirtual 64, 3) := by decide +kernel
theorem dX3_copy_36 : decode cX3_copy 36 = .ok (.ireturn, 1) := by decide +kernel
theorem dX3_overdue_0 : decode cX3_overdue 0 = .ok (.aload_n 0, 1) := by decide +kernel
theorem dX3_overdue_1 : decode cX3_overdue 1 = .ok (.iconst 0, 1) := by decide +kernel
theorem dX3_overdue_2 : decode cX3_overdue 2 = .ok (.putfield 37, 3) := by decide +kernel
theorem dX3_overdue_5 : decode cX3_overdue 5 = .ok (.iconst 0, 1) := by decide +kernel
theorem dX3_overdue_6 : decode cX3_overdue 6 = .ok (.istore_n 1, 1) := by decide +kernel
theorem dX3_overdue_7 : decode cX3_overdue 7 = .ok (.iconst 0, 1) := by decide +kernel
theorem dX3_overdue_8 : decode cX3_overdue 8 = .ok (.istore_n 2, 1) := by decide +kernel
theorem dX3_overdue_9 : decode cX3_overdue 9 = .ok (.iload_n 2, 1) := by decide +kernel
theorem dX3_overdue_10 : decode cX3_overdue 10 = .ok (.aload_n 0, 1) := by decide +kernel
theorem dX3_overdue_11 : decode cX3_overdue 11 = .ok (.getfield 47, 3) := by decide +kernel
theorem dX3_overdue_14 : decode cX3_overdue 14 = .ok (.if_icmp .ge 38, 3) := by decide +kernel
theorem dX3_overdue_17 : decode cX3_overdue 17 = .ok (.aload_n 0, 1) := by decide +kernel
theorem dX3_overdue_18 : decode cX3_overdue 18 = .ok (.getfield 19, 3) := by decide +kernel
theorem dX3_overdue_21 : decode cX3_overdue 21 = .ok (.iload_n 2, 1) := by decide +kernel
theorem dX3_overdue_22 : decode cX3_overdue 22 = .ok (.iaload, 1) := by decide +kernel
theorem dX3_overdue_23 : decode cX3_overdue 23 = .ok (.iconst 1, 1) := by decide +kernel
theorem dX3_overdue_24 : decode cX3_overdue 24 = .ok (.if_icmp .ne 22, 3) := by decide +kernel
theorem dX3_overdue_27 : decode cX3_overdue 27 = .ok (.aload_n 0, 1) := by decide +kernel
theorem dX3_overdue_28 : decode cX3_overdue 28 = .ok (.getfield 100, 3) := by decide +kernel
theorem dX3_overdue_31 : decode cX3_overdue 31 = .ok (.aload_n 0, 1) := by decide +kernel
theorem dX3_overdue_32 : decode cX3_overdue 32 = .ok (.getfield 22, 3) := by decide +kernel
theorem dX3_overdue_35 : decode cX3_overdue 35 = .ok (.iload_n 2, 1) := by decide +kernel
theorem dX3_overdue_36 : decode cX3_overdue 36 = .ok (.iaload, 1) := by decide +kernel
theorem dX3_overdue_37 : decode cX3_overdue 37 = .ok (.if_icmp .le 9, 3) := by decide +kernel
theorem dX3_overdue_40 : decode cX3_overdue 40 = .ok (.iload_n 1, 1) := by decide +kernel
theorem dX3_overdue_41 : decode cX3_overdue 41 = .ok (.iconst 1, 1) := by decide +kernel
theorem dX3_overdue_42 : decode cX3_overdue 42 = .ok (.iload_n 2, 1) := by decide +kernel
theorem dX3_overdue_43 : decode cX3_overdue 43 = .ok (.ishl, 1) := by decide +kernel
theorem dX3_overdue_44 : decode cX3_overdue 44 = .ok (.ior, 1) := by decide +kernel
theorem dX3_overdue_45 : decode cX3_overdue 45 = .ok (.istore_n 1, 1) := by decide +kernel
theorem dX3_overdue_46 : decode cX3_overdue 46 = .ok (.iinc 2 1, 3) := by decide +kernel
theorem dX3_overdue_49 : decode cX3_overdue 49 = .ok (.goto (-40), 3) := by decide +kernel
theorem dX3_overdue_52 : decode cX3_overdue 52 = .ok (.iload_n 1, 1) := by decide +kernel
theorem dX3_overdue_53 : decode cX3_overdue 53 = .ok (.ireturn, 1) := by decide +kernel
set_option maxRecDepth 20000 in
theorem ggX3_holderAt_X3_isCopy : GoodIn wsX3_holderAt wsX3_isCopy := goodIn_r _ [11, 12, 17, 18, 19, 20, 21, 22, 23, 24, 25, 26, 27, 28, 29, 30, 31] (by decide +kernel) (by decide +kernel)
set_option maxRecDepth 20000 in
theorem gX3_holderAt_X3_isCopy : GoodIn wsX3_holderAt (wsV RX3 103 RX3 yX3_isCopy wsX3_isCopy) := goodIn_app (goodIn_of _ (by decide +kernel)) ggX3_holderAt_X3_isCopy
set_option maxRecDepth 20000 in
theorem ggX3_holderAt_X3_fail : GoodIn wsX3_holderAt wsX3_fail := goodIn_r _ [16, 1, 17, 18, 19, 20, 21, 22, 23, 24, 25, 26, 27, 28, 29, 30, 31] (by decide +kernel) (by decide +kernel)
set_option maxRecDepth 20000 in
theorem gX3_holderAt_X3_fail : GoodIn wsX3_holderAt (wsV RX3 64 RX3 yX3_fail wsX3_fail) := goodIn_app (goodIn_of _ (by decide +kernel)) ggX3_holderAt_X3_fail
theorem dX3_holderAt_0 : decode cX3_holderAt 0 = .ok (.aload_n 0, 1) := by decide +kernel
theorem dX3_holderAt_1 : decode cX3_holderAt 1 = .ok (.iconst 0, 1) := by decide +kernel
theorem dX3_holderAt_2 : decode cX3_holderAt 2 = .ok (.putfield 37, 3) := by decide +kernel
theorem dX3_holderAt_5 : decode cX3_holderAt 5 = .ok (.aload_n 0, 1) := by decide +kernel
theorem dX3_holderAt_6 : decode cX3_holderAt 6 = .ok (.iload_n 1, 1) := by decide +kernel
theorem dX3_holderAt_7 : decode cX3_holderAt 7 = .ok (.invokevirtual 103, 3) := by decide +kernel
theorem dX3_holderAt_10 : decode cX3_holderAt 10 = .ok (.ifCond .ne 9, 3) := by decide +kernel
theorem dX3_holderAt_13 : decode cX3_holderAt 13 = .ok (.aload_n 0, 1) := by decide +kernel
theorem dX3_holderAt_14 : decode cX3_holderAt 14 = .ok (.iconst 1, 1) := by decide +kernel
theorem dX3_holderAt_15 : decode cX3_holderAt 15 = .ok (.invokevirtual 64, 3) := by decide +kernel
theorem dX3_holderAt_18 : decode cX3_holderAt 18 = .ok (.ireturn, 1) := by decide +kernel
theorem dX3_holderAt_19 : decode cX3_holderAt 19 = .ok (.iload_n 2, 1) := by decide +kernel
theorem dX3_holderAt_20 : decode cX3_holderAt 20 = .ok (.ifCond .lt 11, 3) := by decide +kernel
theorem dX3_holderAt_23 : decode cX3_holderAt 23 = .ok (.iload_n 2, 1) := by decide +kernel
theorem dX3_holderAt_24 : decode cX3_holderAt 24 = .ok (.aload_n 0, 1) := by decide +kernel
theorem dX3_holderAt_25 : decode cX3_holderAt 25 = .ok (.getfield 100, 3) := by decide +kernel
theorem dX3_holderAt_28 : decode cX3_holderAt 28 = .ok (.if_icmp .le 9, 3) := by decide +kernel
theorem dX3_holderAt_31 : decode cX3_holderAt 31 = .ok (.aload_n 0, 1) := by decide +kernel
theorem dX3_holderAt_32 : decode cX3_holderAt 32 = .ok (.iconst 2, 1) := by decide +kernel
theorem dX3_holderAt_33 : decode cX3_holderAt 33 = .ok (.invokevirtual 64, 3) := by decide +kernel
theorem dX3_holderAt_36 : decode cX3_holderAt 36 = .ok (.ireturn, 1) := by decide +kernel
theorem dX3_holderAt_37 : decode cX3_holderAt 37 = .ok (.iconst (-1), 1) := by decide +kernel
theorem dX3_holderAt_38 : decode cX3_holderAt 38 = .ok (.istore_n 3, 1) := by decide +kernel
theorem dX3_holderAt_39 : decode cX3_holderAt 39 = .ok (.iconst 0, 1) := by decide +kernel
theorem dX3_holderAt_40 : decode cX3_holderAt 40 = .ok (.istore 4, 2) := by decide +kernel
theorem dX3_holderAt_42 : decode cX3_holderAt 42 = .ok (.iload 4, 2) := by decide +kernel
theorem dX3_holderAt_44 : decode cX3_holderAt 44 = .ok (.aload_n 0, 1) := by decide +kernel
theorem dX3_holderAt_45 : decode cX3_holderAt 45 = .ok (.getfield 25, 3) := by decide +kernel
theorem dX3_holderAt_48 : decode cX3_holderAt 48 = .ok (.iload_n 1, 1) := by decide +kernel
theorem dX3_holderAt_49 : decode cX3_holderAt 49 = .ok (.iaload, 1) := by decide +kernel
theorem dX3_holderAt_50 : decode cX3_holderAt 50 = .ok (.if_icmp .ge 59, 3) := by decide +kernel
theorem dX3_holderAt_53 : decode cX3_holderAt 53 = .ok (.bipush 9, 2) := by decide +kernel
theorem dX3_holderAt_55 : decode cX3_holderAt 55 = .ok (.iload_n 1, 1) := by decide +kernel
theorem dX3_holderAt_56 : decode cX3_holderAt 56 = .ok (.imul, 1) := by decide +kernel
theorem dX3_holderAt_57 : decode cX3_holderAt 57 = .ok (.iload 4, 2) := by decide +kernel
theorem dX3_holderAt_59 : decode cX3_holderAt 59 = .ok (.iadd, 1) := by decide +kernel
theorem dX3_holderAt_60 : decode cX3_holderAt 60 = .ok (.istore 5, 2) := by decide +kernel
theorem dX3_holderAt_62 : decode cX3_holderAt 62 = .ok (.aload_n 0, 1) := by decide +kernel
theorem dX3_holderAt_63 : decode cX3_holderAt 63 = .ok (.getfield 31, 3) := by decide +kernel
theorem dX3_holderAt_66 : decode cX3_holderAt 66 = .ok (.iload 5, 2) := by decide +kernel
theorem dX3_holderAt_68 : decode cX3_holderAt 68 = .ok (.iaload, 1) := by decide +kernel
theorem dX3_holderAt_69 : decode cX3_holderAt 69 = .ok (.iload_n 2, 1) := by decide +kernel
theorem dX3_holderAt_70 : decode cX3_holderAt 70 = .ok (.if_icmp .gt 33, 3) := by decide +kernel
theorem dX3_holderAt_73 : decode cX3_holderAt 73 = .ok (.aload_n 0, 1) := by decide +kernel
theorem dX3_holderAt_74 : decode cX3_holderAt 74 = .ok (.getfield 34, 3) := by decide +kernel
theorem dX3_holderAt_77 : decode cX3_holderAt 77 = .ok (.iload 5, 2) := by decide +kernel
theorem dX3_holderAt_79 : decode cX3_holderAt 79 = .ok (.iaload, 1) := by decide +kernel
theorem dX3_holderAt_80 : decode cX3_holderAt 80 = .ok (.iconst (-1), 1) := by decide +kernel
theorem dX3_holderAt_81 : decode cX3_holderAt 81 = .ok (.if_icmp .eq 14, 3) := by decide +kernel
theorem dX3_holderAt_84 : decode cX3_holderAt 84 = .ok (.iload_n 2, 1) := by decide +kernel
theorem dX3_holderAt_85 : decode cX3_holderAt 85 = .ok (.aload_n 0, 1) := by decide +kernel
theorem dX3_holderAt_86 : decode cX3_holderAt 86 = .ok (.getfield 34, 3) := by decide +kernel
theorem dX3_holderAt_89 : decode cX3_holderAt 89 = .ok (.iload 5, 2) := by decide +kernel
theorem dX3_holderAt_91 : decode cX3_holderAt 91 = .ok (.iaload, 1) := by decide +kernel
theorem dX3_holderAt_92 : decode cX3_holderAt 92 = .ok (.if_icmp .ge 11, 3) := by decide +kernel
theorem dX3_holderAt_95 : decode cX3_holderAt 95 = .ok (.aload_n 0, 1) := by decide +kernel
theorem dX3_holderAt_96 : decode cX3_holderAt 96 = .ok (.getfield 28, 3) := by decide +kernel
theorem dX3_holderAt_99 : decode cX3_holderAt 99 = .ok (.iload 5, 2) := by decide +kernel
theorem dX3_holderAt_101 : decode cX3_holderAt 101 = .ok (.iaload, 1) := by decide +kernel
theorem dX3_holderAt_102 : decode cX3_holderAt 102 = .ok (.istore_n 3, 1) := by decide +kernel
theorem dX3_holderAt_103 : decode cX3_holderAt 103 = .ok (.iinc 4 1, 3) := by decide +kernel
theorem dX3_holderAt_106 : decode cX3_holderAt 106 = .ok (.goto (-64), 3) := by decide +kernel
theorem dX3_holderAt_109 : decode cX3_holderAt 109 = .ok (.iload_n 3, 1) := by decide +kernel
theorem dX3_holderAt_110 : decode cX3_holderAt 110 = .ok (.ireturn, 1) := by decide +kernel
set_option maxRecDepth 20000 in
theorem ggX3_reachOf_X3_told : GoodIn wsX3_reachOf wsX3_told := goodIn_r _ [9, 2, 4, 10, 11, 12, 34, 35, 36, 37, 38, 39, 40, 41, 42, 43, 44, 45, 46, 47, 48] (by decide +kernel) (by decide +kernel)
set_option maxRecDepth 20000 in
theorem gX3_reachOf_X3_told : GoodIn wsX3_reachOf (wsV RX3 117 RX3 yX3_told wsX3_told) := goodIn_app (goodIn_of _ (by decide +kernel)) ggX3_reachOf_X3_told
set_option maxRecDepth 20000 in
theorem ggX3_reachOf_X3_doorsOf : GoodIn wsX3_reachOf wsX3_doorsOf := goodIn_r _ [16, 17, 18, 19, 20, 8, 21, 22, 23, 24, 25, 26, 27, 3, 28, 29, 30, 31, 32, 33, 34, 35, 36, 37, 38, 39, 40, 41, 42, 43, 44, 45, 46, 47, 48] (by decide +kernel) (by decide +kernel)
set_option maxRecDepth 20000 in
theorem gX3_reachOf_X3_doorsOf : GoodIn wsX3_reachOf (wsV RX3 89 RX3 yX3_doorsOf wsX3_doorsOf) := goodIn_app (goodIn_of _ (by decide +kernel)) ggX3_reachOf_X3_doorsOf
theorem dX3_reachOf_0 : decode cX3_reachOf 0 = .ok (.iconst 0, 1) := by decide +kernel
theorem dX3_reachOf_1 : decode cX3_reachOf 1 = .ok (.istore_n 2, 1) := by decide +kernel
theorem dX3_reachOf_2 : decode cX3_reachOf 2 = .ok (.iconst 0, 1) := by decide +kernel
theorem dX3_reachOf_3 : decode cX3_reachOf 3 = .ok (.istore_n 3, 1) := by decide +kernel
theorem dX3_reachOf_4 : decode cX3_reachOf 4 = .ok (.iload_n 3, 1) := by decide +kernel
theorem dX3_reachOf_5 : decode cX3_reachOf 5 = .ok (.aload_n 0, 1) := by decide +kernel
theorem dX3_reachOf_6 : decode cX3_reachOf 6 = .ok (.getfield 47, 3) := by decide +kernel
theorem dX3_reachOf_9 : decode cX3_reachOf 9 = .ok (.if_icmp .ge 47, 3) := by decide +kernel
theorem dX3_reachOf_12 : decode cX3_reachOf 12 = .ok (.aload_n 0, 1) := by decide +kernel
theorem dX3_reachOf_13 : decode cX3_reachOf 13 = .ok (.getfield 19, 3) := by decide +kernel
theorem dX3_reachOf_16 : decode cX3_reachOf 16 = .ok (.iload_n 3, 1) := by decide +kernel
theorem dX3_reachOf_17 : decode cX3_reachOf 17 = .ok (.iaload, 1) := by decide +kernel
theorem dX3_reachOf_18 : decode cX3_reachOf 18 = .ok (.iconst 1, 1) := by decide +kernel
theorem dX3_reachOf_19 : decode cX3_reachOf 19 = .ok (.if_icmp .ne 31, 3) := by decide +kernel
theorem dX3_reachOf_22 : decode cX3_reachOf 22 = .ok (.aload_n 0, 1) := by decide +kernel
theorem dX3_reachOf_23 : decode cX3_reachOf 23 = .ok (.iload_n 3, 1) := by decide +kernel
theorem dX3_reachOf_24 : decode cX3_reachOf 24 = .ok (.iconst 2, 1) := by decide +kernel
theorem dX3_reachOf_25 : decode cX3_reachOf 25 = .ok (.invokevirtual 117, 3) := by decide +kernel
theorem dX3_reachOf_28 : decode cX3_reachOf 28 = .ok (.iload_n 1, 1) := by decide +kernel
theorem dX3_reachOf_29 : decode cX3_reachOf 29 = .ok (.if_icmp .ne 21, 3) := by decide +kernel
theorem dX3_reachOf_32 : decode cX3_reachOf 32 = .ok (.iload_n 2, 1) := by decide +kernel
theorem dX3_reachOf_33 : decode cX3_reachOf 33 = .ok (.aload_n 0, 1) := by decide +kernel
theorem dX3_reachOf_34 : decode cX3_reachOf 34 = .ok (.aload_n 0, 1) := by decide +kernel
theorem dX3_reachOf_35 : decode cX3_reachOf 35 = .ok (.getfield 9, 3) := by decide +kernel
theorem dX3_reachOf_38 : decode cX3_reachOf 38 = .ok (.aload_n 0, 1) := by decide +kernel
theorem dX3_reachOf_39 : decode cX3_reachOf 39 = .ok (.getfield 16, 3) := by decide +kernel
theorem dX3_reachOf_42 : decode cX3_reachOf 42 = .ok (.iload_n 3, 1) := by decide +kernel
theorem dX3_reachOf_43 : decode cX3_reachOf 43 = .ok (.iaload, 1) := by decide +kernel
theorem dX3_reachOf_44 : decode cX3_reachOf 44 = .ok (.iaload, 1) := by decide +kernel
theorem dX3_reachOf_45 : decode cX3_reachOf 45 = .ok (.invokevirtual 89, 3) := by decide +kernel
theorem dX3_reachOf_48 : decode cX3_reachOf 48 = .ok (.ior, 1) := by decide +kernel
theorem dX3_reachOf_49 : decode cX3_reachOf 49 = .ok (.istore_n 2, 1) := by decide +kernel
theorem dX3_reachOf_50 : decode cX3_reachOf 50 = .ok (.iinc 3 1, 3) := by decide +kernel
theorem dX3_reachOf_53 : decode cX3_reachOf 53 = .ok (.goto (-49), 3) := by decide +kernel
theorem dX3_reachOf_56 : decode cX3_reachOf 56 = .ok (.iload_n 2, 1) := by decide +kernel
theorem dX3_reachOf_57 : decode cX3_reachOf 57 = .ok (.ireturn, 1) := by decide +kernel
set_option maxRecDepth 20000 in
theorem ggX3_reach_X3_isPerson : GoodIn wsX3_reach wsX3_isPerson := goodIn_r _ [5] (by decide +kernel) (by decide +kernel)
set_option maxRecDepth 20000 in
theorem gX3_reach_X3_isPerson : GoodIn wsX3_reach (va_wsS RX3 106 yX3_isPerson wsX3_isPerson) := goodIn_app (goodIn_of _ (by decide +kernel)) ggX3_reach_X3_isPerson
set_option maxRecDepth 20000 in
theorem ggX3_reach_X3_reachOf : GoodIn wsX3_reach wsX3_reachOf := goodIn_r _ [9, 10, 11, 12, 13, 14, 15, 16, 4, 17, 18, 19, 20, 21, 22, 23, 24, 25, 26, 27, 28, 29, 30, 31, 32, 33, 34, 35, 36, 37, 38, 39, 40, 41, 46, 47, 48, 49, 50, 51, 52, 53, 54, 55, 56, 57, 58, 59, 60] (by decide +kernel) (by decide +kernel)
set_option maxRecDepth 20000 in
theorem gX3_reach_X3_reachOf : GoodIn wsX3_reach (wsV RX3 120 RX3 yX3_reachOf wsX3_reachOf) := goodIn_app (goodIn_of _ (by decide +kernel)) ggX3_reach_X3_reachOf
set_option maxRecDepth 20000 in
theorem ggX3_reach_X3_fail : GoodIn wsX3_reach wsX3_fail := goodIn_r _ [45, 1, 46, 47, 48, 49, 50, 51, 52, 53, 54, 55, 56, 57, 58, 59, 60] (by decide +kernel) (by decide +kernel)
set_option maxRecDepth 20000 in
theorem gX3_reach_X3_fail : GoodIn wsX3_reach (wsV RX3 64 RX3 yX3_fail wsX3_fail) := goodIn_app (goodIn_of _ (by decide +kernel)) ggX3_reach_X3_fail
theorem dX3_reach_0 : decode cX3_reach 0 = .ok (.aload_n 0, 1) := by decide +kernel
theorem dX3_reach_1 : decode cX3_reach 1 = .ok (.iconst 0, 1) := by decide +kernel
theorem dX3_reach_2 : decode cX3_reach 2 = .ok (.putfield 37, 3) := by decide +kernel
theorem dX3_reach_5 : decode cX3_reach 5 = .ok (.iload_n 1, 1) := by decide +kernel
theorem dX3_reach_6 : decode cX3_reach 6 = .ok (.invokestatic 106, 3) := by decide +kernel
theorem dX3_reach_9 : decode cX3_reach 9 = .ok (.ifCond .eq 11, 3) := by decide +kernel
theorem dX3_reach_12 : decode cX3_reach 12 = .ok (.aload_n 0, 1) := by decide +kernel
theorem dX3_reach_13 : decode cX3_reach 13 = .ok (.iload_n 1, 1) := by decide +kernel
theorem dX3_reach_14 : decode cX3_reach 14 = .ok (.invokevirtual 120, 3) := by decide +kernel
theorem dX3_reach_17 : decode cX3_reach 17 = .ok (.goto 8, 3) := by decide +kernel
theorem dX3_reach_20 : decode cX3_reach 20 = .ok (.aload_n 0, 1) := by decide +kernel
theorem dX3_reach_21 : decode cX3_reach 21 = .ok (.iconst 1, 1) := by decide +kernel
theorem dX3_reach_22 : decode cX3_reach 22 = .ok (.invokevirtual 64, 3) := by decide +kernel
theorem dX3_reach_25 : decode cX3_reach 25 = .ok (.ireturn, 1) := by decide +kernel
set_option maxRecDepth 20000 in
theorem ggX3_risk_X3_riskyDoors : GoodIn wsX3_risk wsX3_riskyDoors := goodIn_r _ [6, 7, 8, 9, 10, 11, 12, 13, 5, 14, 15, 16, 17, 18, 19, 20, 21, 22, 23, 24, 25, 26, 27, 28, 29, 30, 31, 32, 33, 34, 35, 36, 37, 38, 39, 40, 41, 42, 43, 44, 45, 46] (by decide +kernel) (by decide +kernel)
set_option maxRecDepth 20000 in
theorem gX3_risk_X3_riskyDoors : GoodIn wsX3_risk (wsV RX3 114 RX3 yX3_riskyDoors wsX3_riskyDoors) := goodIn_app (goodIn_of _ (by decide +kernel)) ggX3_risk_X3_riskyDoors
theorem dX3_risk_0 : decode cX3_risk 0 = .ok (.aload_n 0, 1) := by decide +kernel
theorem dX3_risk_1 : decode cX3_risk 1 = .ok (.iconst 0, 1) := by decide +kernel
theorem dX3_risk_2 : decode cX3_risk 2 = .ok (.putfield 37, 3) := by decide +kernel
theorem dX3_risk_5 : decode cX3_risk 5 = .ok (.aload_n 0, 1) := by decide +kernel
theorem dX3_risk_6 : decode cX3_risk 6 = .ok (.invokevirtual 114, 3) := by decide +kernel
theorem dX3_risk_9 : decode cX3_risk 9 = .ok (.ireturn, 1) := by decide +kernel
set_option maxRecDepth 20000 in
theorem ggX3_suggest_X3_isPerson : GoodIn wsX3_suggest wsX3_isPerson := goodIn_r _ [13] (by decide +kernel) (by decide +kernel)
set_option maxRecDepth 20000 in
theorem gX3_suggest_X3_isPerson : GoodIn wsX3_suggest (va_wsS RX3 106 yX3_isPerson wsX3_isPerson) := goodIn_app (goodIn_of _ (by decide +kernel)) ggX3_suggest_X3_isPerson
set_option maxRecDepth 20000 in
theorem ggX3_suggest_X3_fail : GoodIn wsX3_suggest wsX3_fail := goodIn_r _ [17, 1, 54, 55, 56, 57, 58, 59, 60, 61, 62, 63, 64, 65, 66, 67, 68] (by decide +kernel) (by decide +kernel)
set_option maxRecDepth 20000 in
theorem gX3_suggest_X3_fail : GoodIn wsX3_suggest (wsV RX3 64 RX3 yX3_fail wsX3_fail) := goodIn_app (goodIn_of _ (by decide +kernel)) ggX3_suggest_X3_fail
set_option maxRecDepth 20000 in
theorem ggX3_suggest_X3_reachOf : GoodIn wsX3_suggest wsX3_reachOf := goodIn_r _ [21, 4, 5, 9, 7, 22, 23, 24, 12, 25, 26, 6, 27, 28, 29, 30, 31, 2, 32, 33, 34, 35, 36, 37, 38, 39, 8, 40, 41, 42, 43, 44, 45, 46, 54, 55, 56, 57, 58, 59, 60, 61, 62, 63, 64, 65, 66, 67, 68] (by decide +kernel) (by decide +kernel)
set_option maxRecDepth 20000 in
theorem gX3_suggest_X3_reachOf : GoodIn wsX3_suggest (wsV RX3 120 RX3 yX3_reachOf wsX3_reachOf) := goodIn_app (goodIn_of _ (by decide +kernel)) ggX3_suggest_X3_reachOf
set_option maxRecDepth 20000 in
theorem ggX3_suggest_X3_has : GoodIn wsX3_suggest wsX3_has := goodIn_r _ [43] (by decide +kernel) (by decide +kernel)
set_option maxRecDepth 20000 in
theorem gX3_suggest_X3_has : GoodIn wsX3_suggest (va_wsS RX3 50 yX3_has wsX3_has) := goodIn_app (goodIn_of _ (by decide +kernel)) ggX3_suggest_X3_has
set_option maxRecDepth 20000 in
theorem ggX3_suggest_X3_doorsOf : GoodIn wsX3_suggest wsX3_doorsOf := goodIn_r _ [31, 2, 32, 33, 34, 12, 35, 36, 37, 38, 39, 8, 40, 9, 41, 42, 43, 44, 45, 46, 54, 55, 56, 57, 58, 59, 60, 61, 62, 63, 64, 65, 66, 67, 68] (by decide +kernel) (by decide +kernel)
set_option maxRecDepth 20000 in
theorem gX3_suggest_X3_doorsOf : GoodIn wsX3_suggest (wsV RX3 89 RX3 yX3_doorsOf wsX3_doorsOf) := goodIn_app (goodIn_of _ (by decide +kernel)) ggX3_suggest_X3_doorsOf
set_option maxRecDepth 20000 in
theorem ggX3_suggest_J6_bitCount_0f7a4 : GoodIn wsX3_suggest wsJ6_bitCount_0f7a4 := goodIn_r _ [50, 51, 52, 53] (by decide +kernel) (by decide +kernel)
set_option maxRecDepth 20000 in
theorem gX3_suggest_J6_bitCount_0f7a4 : GoodIn wsX3_suggest (va_wsS RX3 78 yJ6_bitCount_0f7a4 wsJ6_bitCount_0f7a4) := goodIn_app (goodIn_of _ (by decide +kernel)) ggX3_suggest_J6_bitCount_0f7a4
theorem dX3_suggest_0 : decode cX3_suggest 0 = .ok (.aload_n 0, 1) := by decide +kernel
theorem dX3_suggest_1 : decode cX3_suggest 1 = .ok (.iconst 0, 1) := by decide +kernel
theorem dX3_suggest_2 : decode cX3_suggest 2 = .ok (.putfield 37, 3) := by decide +kernel
theorem dX3_suggest_5 : decode cX3_suggest 5 = .ok (.iload_n 1, 1) := by decide +kernel
theorem dX3_suggest_6 : decode cX3_suggest 6 = .ok (.invokestatic 106, 3) := by decide +kernel
theorem dX3_suggest_9 : decode cX3_suggest 9 = .ok (.ifCond .ne 9, 3) := by decide +kernel
theorem dX3_suggest_12 : decode cX3_suggest 12 = .ok (.aload_n 0, 1) := by decide +kernel
theorem dX3_suggest_13 : decode cX3_suggest 13 = .ok (.iconst 1, 1) := by decide +kernel
theorem dX3_suggest_14 : decode cX3_suggest 14 = .ok (.invokevirtual 64, 3) := by decide +kernel
theorem dX3_suggest_17 : decode cX3_suggest 17 = .ok (.ireturn, 1) := by decide +kernel
theorem dX3_suggest_18 : decode cX3_suggest 18 = .ok (.iload_n 2, 1) := by decide +kernel
theorem dX3_suggest_19 : decode cX3_suggest 19 = .ok (.ifCond .lt 13, 3) := by decide +kernel
theorem dX3_suggest_22 : decode cX3_suggest 22 = .ok (.iload_n 2, 1) := by decide +kernel
theorem dX3_suggest_23 : decode cX3_suggest 23 = .ok (.iconst 1, 1) := by decide +kernel
theorem dX3_suggest_24 : decode cX3_suggest 24 = .ok (.aload_n 0, 1) := by decide +kernel
theorem dX3_suggest_25 : decode cX3_suggest 25 = .ok (.getfield 44, 3) := by decide +kernel
theorem dX3_suggest_28 : decode cX3_suggest 28 = .ok (.ishl, 1) := by decide +kernel
theorem dX3_suggest_29 : decode cX3_suggest 29 = .ok (.if_icmp .lt 9, 3) := by decide +kernel
theorem dX3_suggest_32 : decode cX3_suggest 32 = .ok (.aload_n 0, 1) := by decide +kernel
theorem dX3_suggest_33 : decode cX3_suggest 33 = .ok (.iconst 2, 1) := by decide +kernel
theorem dX3_suggest_34 : decode cX3_suggest 34 = .ok (.invokevirtual 64, 3) := by decide +kernel
theorem dX3_suggest_37 : decode cX3_suggest 37 = .ok (.ireturn, 1) := by decide +kernel
theorem dX3_suggest_38 : decode cX3_suggest 38 = .ok (.bipush 8, 2) := by decide +kernel
theorem dX3_suggest_40 : decode cX3_suggest 40 = .ok (.newarray .int, 2) := by decide +kernel
theorem dX3_suggest_42 : decode cX3_suggest 42 = .ok (.astore_n 3, 1) := by decide +kernel
theorem dX3_suggest_43 : decode cX3_suggest 43 = .ok (.iconst 0, 1) := by decide +kernel
theorem dX3_suggest_44 : decode cX3_suggest 44 = .ok (.istore 4, 2) := by decide +kernel
theorem dX3_suggest_46 : decode cX3_suggest 46 = .ok (.iload 4, 2) := by decide +kernel
theorem dX3_suggest_48 : decode cX3_suggest 48 = .ok (.bipush 8, 2) := by decide +kernel
theorem dX3_suggest_50 : decode cX3_suggest 50 = .ok (.if_icmp .ge 14, 3) := by decide +kernel
theorem dX3_suggest_53 : decode cX3_suggest 53 = .ok (.aload_n 3, 1) := by decide +kernel
theorem dX3_suggest_54 : decode cX3_suggest 54 = .ok (.iload 4, 2) := by decide +kernel
theorem dX3_suggest_56 : decode cX3_suggest 56 = .ok (.iconst (-1), 1) := by decide +kernel
theorem dX3_suggest_57 : decode cX3_suggest 57 = .ok (.iastore, 1) := by decide +kernel
theorem dX3_suggest_58 : decode cX3_suggest 58 = .ok (.iinc 4 1, 3) := by decide +kernel
theorem dX3_suggest_61 : decode cX3_suggest 61 = .ok (.goto (-15), 3) := by decide +kernel
theorem dX3_suggest_64 : decode cX3_suggest 64 = .ok (.aload_n 0, 1) := by decide +kernel
theorem dX3_suggest_65 : decode cX3_suggest 65 = .ok (.getfield 47, 3) := by decide +kernel
theorem dX3_suggest_68 : decode cX3_suggest 68 = .ok (.iconst 1, 1) := by decide +kernel
theorem dX3_suggest_69 : decode cX3_suggest 69 = .ok (.isub, 1) := by decide +kernel
theorem dX3_suggest_70 : decode cX3_suggest 70 = .ok (.istore 4, 2) := by decide +kernel
theorem dX3_suggest_72 : decode cX3_suggest 72 = .ok (.iload 4, 2) := by decide +kernel
theorem dX3_suggest_74 : decode cX3_suggest 74 = .ok (.ifCond .lt 42, 3) := by decide +kernel
theorem dX3_suggest_77 : decode cX3_suggest 77 = .ok (.aload_n 0, 1) := by decide +kernel
theorem dX3_suggest_78 : decode cX3_suggest 78 = .ok (.getfield 19, 3) := by decide +kernel
theorem dX3_suggest_81 : decode cX3_suggest 81 = .ok (.iload 4, 2) := by decide +kernel
theorem dX3_suggest_83 : decode cX3_suggest 83 = .ok (.iaload, 1) := by decide +kernel
theorem dX3_suggest_84 : decode cX3_suggest 84 = .ok (.ifCond .ne 26, 3) := by decide +kernel
theorem dX3_suggest_87 : decode cX3_suggest 87 = .ok (.aload_n 0, 1) := by decide +kernel
theorem dX3_suggest_88 : decode cX3_suggest 88 = .ok (.getfield 25, 3) := by decide +kernel
theorem dX3_suggest_91 : decode cX3_suggest 91 = .ok (.iload 4, 2) := by decide +kernel
theorem dX3_suggest_93 : decode cX3_suggest 93 = .ok (.iaload, 1) := by decide +kernel
theorem dX3_suggest_94 : decode cX3_suggest 94 = .ok (.bipush 9, 2) := by decide +kernel
theorem dX3_suggest_96 : decode cX3_suggest 96 = .ok (.if_icmp .ge 14, 3) := by decide +kernel
theorem dX3_suggest_99 : decode cX3_suggest 99 = .ok (.aload_n 3, 1) := by decide +kernel
theorem dX3_suggest_100 : decode cX3_suggest 100 = .ok (.aload_n 0, 1) := by decide +kernel
theorem dX3_suggest_101 : decode cX3_suggest 101 = .ok (.getfield 16, 3) := by decide +kernel
theorem dX3_suggest_104 : decode cX3_suggest 104 = .ok (.iload 4, 2) := by decide +kernel
theorem dX3_suggest_106 : decode cX3_suggest 106 = .ok (.iaload, 1) := by decide +kernel
theorem dX3_suggest_107 : decode cX3_suggest 107 = .ok (.iload 4, 2) := by decide +kernel
theorem dX3_suggest_109 : decode cX3_suggest 109 = .ok (.iastore, 1) := by decide +kernel
theorem dX3_suggest_110 : decode cX3_suggest 110 = .ok (.iinc 4 (-1), 3) := by decide +kernel
theorem dX3_suggest_113 : decode cX3_suggest 113 = .ok (.goto (-41), 3) := by decide +kernel
theorem dX3_suggest_116 : decode cX3_suggest 116 = .ok (.aload_n 0, 1) := by decide +kernel
theorem dX3_suggest_117 : decode cX3_suggest 117 = .ok (.iload_n 1, 1) := by decide +kernel
theorem dX3_suggest_118 : decode cX3_suggest 118 = .ok (.invokevirtual 120, 3) := by decide +kernel
theorem dX3_suggest_121 : decode cX3_suggest 121 = .ok (.istore 4, 2) := by decide +kernel
theorem dX3_suggest_123 : decode cX3_suggest 123 = .ok (.iconst (-1), 1) := by decide +kernel
theorem dX3_suggest_124 : decode cX3_suggest 124 = .ok (.istore 5, 2) := by decide +kernel
theorem dX3_suggest_126 : decode cX3_suggest 126 = .ok (.iconst 0, 1) := by decide +kernel
theorem dX3_suggest_127 : decode cX3_suggest 127 = .ok (.istore 6, 2) := by decide +kernel
theorem dX3_suggest_129 : decode cX3_suggest 129 = .ok (.iconst 0, 1) := by decide +kernel
theorem dX3_suggest_130 : decode cX3_suggest 130 = .ok (.istore 7, 2) := by decide +kernel
theorem dX3_suggest_132 : decode cX3_suggest 132 = .ok (.iload 7, 2) := by decide +kernel
theorem dX3_suggest_134 : decode cX3_suggest 134 = .ok (.iconst 1, 1) := by decide +kernel
theorem dX3_suggest_135 : decode cX3_suggest 135 = .ok (.aload_n 0, 1) := by decide +kernel
theorem dX3_suggest_136 : decode cX3_suggest 136 = .ok (.getfield 41, 3) := by decide +kernel
theorem dX3_suggest_139 : decode cX3_suggest 139 = .ok (.ishl, 1) := by decide +kernel
theorem dX3_suggest_140 : decode cX3_suggest 140 = .ok (.if_icmp .ge 197, 3) := by decide +kernel
theorem dX3_suggest_143 : decode cX3_suggest 143 = .ok (.iconst 0, 1) := by decide +kernel
theorem dX3_suggest_144 : decode cX3_suggest 144 = .ok (.istore 8, 2) := by decide +kernel
theorem dX3_suggest_146 : decode cX3_suggest 146 = .ok (.iload 4, 2) := by decide +kernel
theorem dX3_suggest_148 : decode cX3_suggest 148 = .ok (.istore 9, 2) := by decide +kernel
theorem dX3_suggest_150 : decode cX3_suggest 150 = .ok (.iconst 1, 1) := by decide +kernel
theorem dX3_suggest_151 : decode cX3_suggest 151 = .ok (.istore 10, 2) := by decide +kernel
theorem dX3_suggest_153 : decode cX3_suggest 153 = .ok (.iconst 0, 1) := by decide +kernel
theorem dX3_suggest_154 : decode cX3_suggest 154 = .ok (.istore 11, 2) := by decide +kernel
theorem dX3_suggest_156 : decode cX3_suggest 156 = .ok (.iload 11, 2) := by decide +kernel
theorem dX3_suggest_158 : decode cX3_suggest 158 = .ok (.aload_n 0, 1) := by decide +kernel
theorem dX3_suggest_159 : decode cX3_suggest 159 = .ok (.getfield 41, 3) := by decide +kernel
theorem dX3_suggest_162 : decode cX3_suggest 162 = .ok (.if_icmp .ge 77, 3) := by decide +kernel
theorem dX3_suggest_165 : decode cX3_suggest 165 = .ok (.iload 7, 2) := by decide +kernel
theorem dX3_suggest_167 : decode cX3_suggest 167 = .ok (.iload 11, 2) := by decide +kernel
theorem dX3_suggest_169 : decode cX3_suggest 169 = .ok (.invokestatic 50, 3) := by decide +kernel
theorem dX3_suggest_172 : decode cX3_suggest 172 = .ok (.ifCond .ne 6, 3) := by decide +kernel
theorem dX3_suggest_175 : decode cX3_suggest 175 = .ok (.goto 58, 3) := by decide +kernel
theorem dX3_suggest_178 : decode cX3_suggest 178 = .ok (.iload 10, 2) := by decide +kernel
theorem dX3_suggest_180 : decode cX3_suggest 180 = .ok (.ifCond .eq 15, 3) := by decide +kernel
theorem dX3_suggest_183 : decode cX3_suggest 183 = .ok (.aload_n 3, 1) := by decide +kernel
theorem dX3_suggest_184 : decode cX3_suggest 184 = .ok (.iload 11, 2) := by decide +kernel
theorem dX3_suggest_186 : decode cX3_suggest 186 = .ok (.iaload, 1) := by decide +kernel
theorem dX3_suggest_187 : decode cX3_suggest 187 = .ok (.iconst (-1), 1) := by decide +kernel
theorem dX3_suggest_188 : decode cX3_suggest 188 = .ok (.if_icmp .eq 7, 3) := by decide +kernel
theorem dX3_suggest_191 : decode cX3_suggest 191 = .ok (.iconst 1, 1) := by decide +kernel
theorem dX3_suggest_192 : decode cX3_suggest 192 = .ok (.goto 4, 3) := by decide +kernel
theorem dX3_suggest_195 : decode cX3_suggest 195 = .ok (.iconst 0, 1) := by decide +kernel
theorem dX3_suggest_196 : decode cX3_suggest 196 = .ok (.istore 10, 2) := by decide +kernel
theorem dX3_suggest_198 : decode cX3_suggest 198 = .ok (.aload_n 3, 1) := by decide +kernel
theorem dX3_suggest_199 : decode cX3_suggest 199 = .ok (.iload 11, 2) := by decide +kernel
theorem dX3_suggest_201 : decode cX3_suggest 201 = .ok (.iaload, 1) := by decide +kernel
theorem dX3_suggest_202 : decode cX3_suggest 202 = .ok (.iconst (-1), 1) := by decide +kernel
theorem dX3_suggest_203 : decode cX3_suggest 203 = .ok (.if_icmp .eq 14, 3) := by decide +kernel
theorem dX3_suggest_206 : decode cX3_suggest 206 = .ok (.iload 8, 2) := by decide +kernel
theorem dX3_suggest_208 : decode cX3_suggest 208 = .ok (.iconst 1, 1) := by decide +kernel
theorem dX3_suggest_209 : decode cX3_suggest 209 = .ok (.aload_n 3, 1) := by decide +kernel
theorem dX3_suggest_210 : decode cX3_suggest 210 = .ok (.iload 11, 2) := by decide +kernel
theorem dX3_suggest_212 : decode cX3_suggest 212 = .ok (.iaload, 1) := by decide +kernel
theorem dX3_suggest_213 : decode cX3_suggest 213 = .ok (.ishl, 1) := by decide +kernel
theorem dX3_suggest_214 : decode cX3_suggest 214 = .ok (.ior, 1) := by decide +kernel
theorem dX3_suggest_215 : decode cX3_suggest 215 = .ok (.istore 8, 2) := by decide +kernel
theorem dX3_suggest_217 : decode cX3_suggest 217 = .ok (.iload 9, 2) := by decide +kernel
theorem dX3_suggest_219 : decode cX3_suggest 219 = .ok (.aload_n 0, 1) := by decide +kernel
theorem dX3_suggest_220 : decode cX3_suggest 220 = .ok (.aload_n 0, 1) := by decide +kernel
theorem dX3_suggest_221 : decode cX3_suggest 221 = .ok (.getfield 9, 3) := by decide +kernel
theorem dX3_suggest_224 : decode cX3_suggest 224 = .ok (.iload 11, 2) := by decide +kernel
theorem dX3_suggest_226 : decode cX3_suggest 226 = .ok (.iaload, 1) := by decide +kernel
theorem dX3_suggest_227 : decode cX3_suggest 227 = .ok (.invokevirtual 89, 3) := by decide +kernel
theorem dX3_suggest_230 : decode cX3_suggest 230 = .ok (.ior, 1) := by decide +kernel
theorem dX3_suggest_231 : decode cX3_suggest 231 = .ok (.istore 9, 2) := by decide +kernel
theorem dX3_suggest_233 : decode cX3_suggest 233 = .ok (.iinc 11 1, 3) := by decide +kernel
theorem dX3_suggest_236 : decode cX3_suggest 236 = .ok (.goto (-80), 3) := by decide +kernel
theorem dX3_suggest_239 : decode cX3_suggest 239 = .ok (.iload 10, 2) := by decide +kernel
theorem dX3_suggest_241 : decode cX3_suggest 241 = .ok (.ifCond .eq 90, 3) := by decide +kernel
theorem dX3_suggest_244 : decode cX3_suggest 244 = .ok (.iload_n 2, 1) := by decide +kernel
theorem dX3_suggest_245 : decode cX3_suggest 245 = .ok (.iload 9, 2) := by decide +kernel
theorem dX3_suggest_247 : decode cX3_suggest 247 = .ok (.iconst (-1), 1) := by decide +kernel
theorem dX3_suggest_248 : decode cX3_suggest 248 = .ok (.ixor, 1) := by decide +kernel
theorem dX3_suggest_249 : decode cX3_suggest 249 = .ok (.iand, 1) := by decide +kernel
theorem dX3_suggest_250 : decode cX3_suggest 250 = .ok (.ifCond .eq 6, 3) := by decide +kernel
theorem dX3_suggest_253 : decode cX3_suggest 253 = .ok (.goto 78, 3) := by decide +kernel
theorem dX3_suggest_256 : decode cX3_suggest 256 = .ok (.iload 8, 2) := by decide +kernel
theorem dX3_suggest_258 : decode cX3_suggest 258 = .ok (.invokestatic 78, 3) := by decide +kernel
theorem dX3_suggest_261 : decode cX3_suggest 261 = .ok (.iload 5, 2) := by decide +kernel
theorem dX3_suggest_263 : decode cX3_suggest 263 = .ok (.iconst (-1), 1) := by decide +kernel
theorem dX3_suggest_264 : decode cX3_suggest 264 = .ok (.if_icmp .ne 8, 3) := by decide +kernel
theorem dX3_suggest_267 : decode cX3_suggest 267 = .ok (.bipush 99, 2) := by decide +kernel
theorem dX3_suggest_269 : decode cX3_suggest 269 = .ok (.goto 8, 3) := by decide +kernel
theorem dX3_suggest_272 : decode cX3_suggest 272 = .ok (.iload 5, 2) := by decide +kernel
theorem dX3_suggest_274 : decode cX3_suggest 274 = .ok (.invokestatic 78, 3) := by decide +kernel
theorem dX3_suggest_277 : decode cX3_suggest 277 = .ok (.isub, 1) := by decide +kernel
theorem dX3_suggest_278 : decode cX3_suggest 278 = .ok (.istore 11, 2) := by decide +kernel
theorem dX3_suggest_280 : decode cX3_suggest 280 = .ok (.iload 9, 2) := by decide +kernel
theorem dX3_suggest_282 : decode cX3_suggest 282 = .ok (.invokestatic 78, 3) := by decide +kernel
theorem dX3_suggest_285 : decode cX3_suggest 285 = .ok (.iload 6, 2) := by decide +kernel
theorem dX3_suggest_287 : decode cX3_suggest 287 = .ok (.isub, 1) := by decide +kernel
theorem dX3_suggest_288 : decode cX3_suggest 288 = .ok (.istore 12, 2) := by decide +kernel
theorem dX3_suggest_290 : decode cX3_suggest 290 = .ok (.iload 11, 2) := by decide +kernel
theorem dX3_suggest_292 : decode cX3_suggest 292 = .ok (.ifCond .gt 39, 3) := by decide +kernel
theorem dX3_suggest_295 : decode cX3_suggest 295 = .ok (.iload 11, 2) := by decide +kernel
theorem dX3_suggest_297 : decode cX3_suggest 297 = .ok (.ifCond .ne 23, 3) := by decide +kernel
theorem dX3_suggest_300 : decode cX3_suggest 300 = .ok (.iload 12, 2) := by decide +kernel
theorem dX3_suggest_302 : decode cX3_suggest 302 = .ok (.ifCond .gt 29, 3) := by decide +kernel
theorem dX3_suggest_305 : decode cX3_suggest 305 = .ok (.iload 12, 2) := by decide +kernel
theorem dX3_suggest_307 : decode cX3_suggest 307 = .ok (.ifCond .ne 13, 3) := by decide +kernel
theorem dX3_suggest_310 : decode cX3_suggest 310 = .ok (.iload 8, 2) := by decide +kernel
theorem dX3_suggest_312 : decode cX3_suggest 312 = .ok (.iload 5, 2) := by decide +kernel
theorem dX3_suggest_314 : decode cX3_suggest 314 = .ok (.if_icmp .le 6, 3) := by decide +kernel
theorem dX3_suggest_317 : decode cX3_suggest 317 = .ok (.goto 14, 3) := by decide +kernel
theorem dX3_suggest_320 : decode cX3_suggest 320 = .ok (.iload 8, 2) := by decide +kernel
theorem dX3_suggest_322 : decode cX3_suggest 322 = .ok (.istore 5, 2) := by decide +kernel
theorem dX3_suggest_324 : decode cX3_suggest 324 = .ok (.iload 9, 2) := by decide +kernel
theorem dX3_suggest_326 : decode cX3_suggest 326 = .ok (.invokestatic 78, 3) := by decide +kernel
theorem dX3_suggest_329 : decode cX3_suggest 329 = .ok (.istore 6, 2) := by decide +kernel
theorem dX3_suggest_331 : decode cX3_suggest 331 = .ok (.iinc 7 1, 3) := by decide +kernel
theorem dX3_suggest_334 : decode cX3_suggest 334 = .ok (.goto (-202), 3) := by decide +kernel
theorem dX3_suggest_337 : decode cX3_suggest 337 = .ok (.iload 5, 2) := by decide +kernel
theorem dX3_suggest_339 : decode cX3_suggest 339 = .ok (.ireturn, 1) := by decide +kernel
set_option maxRecDepth 20000 in
theorem ggX3_exposure_X3_riskyDoors : GoodIn wsX3_exposure wsX3_riskyDoors := goodIn_r _ [7, 8, 9, 10, 11, 12, 13, 14, 6, 15, 2, 16, 17, 18, 19, 20, 21, 22, 23, 24, 25, 26, 27, 28, 29, 30, 31, 50, 51, 52, 53, 54, 55, 56, 57, 58, 59, 60, 61, 62, 63, 64] (by decide +kernel) (by decide +kernel)
set_option maxRecDepth 20000 in
theorem gX3_exposure_X3_riskyDoors : GoodIn wsX3_exposure (wsV RX3 114 RX3 yX3_riskyDoors wsX3_riskyDoors) := goodIn_app (goodIn_of _ (by decide +kernel)) ggX3_exposure_X3_riskyDoors
set_option maxRecDepth 20000 in
theorem ggX3_exposure_X3_reachOf : GoodIn wsX3_exposure wsX3_reachOf := goodIn_r _ [35, 8, 9, 10, 11, 36, 37, 38, 6, 39, 40, 41, 42, 12, 13, 14, 15, 2, 16, 17, 18, 19, 20, 21, 22, 23, 24, 25, 26, 27, 28, 29, 30, 31, 50, 51, 52, 53, 54, 55, 56, 57, 58, 59, 60, 61, 62, 63, 64] (by decide +kernel) (by decide +kernel)
set_option maxRecDepth 20000 in
theorem gX3_exposure_X3_reachOf : GoodIn wsX3_exposure (wsV RX3 120 RX3 yX3_reachOf wsX3_reachOf) := goodIn_app (goodIn_of _ (by decide +kernel)) ggX3_exposure_X3_reachOf
set_option maxRecDepth 20000 in
theorem ggX3_exposure_J6_bitCount_0f7a4 : GoodIn wsX3_exposure wsJ6_bitCount_0f7a4 := goodIn_r _ [46, 47, 48, 49] (by decide +kernel) (by decide +kernel)
set_option maxRecDepth 20000 in
theorem gX3_exposure_J6_bitCount_0f7a4 : GoodIn wsX3_exposure (va_wsS RX3 78 yJ6_bitCount_0f7a4 wsJ6_bitCount_0f7a4) := goodIn_app (goodIn_of _ (by decide +kernel)) ggX3_exposure_J6_bitCount_0f7a4
theorem dX3_exposure_0 : decode cX3_exposure 0 = .ok (.aload_n 0, 1) := by decide +kernel
theorem dX3_exposure_1 : decode cX3_exposure 1 = .ok (.iconst 0, 1) := by decide +kernel
theorem dX3_exposure_2 : decode cX3_exposure 2 = .ok (.putfield 37, 3) := by decide +kernel
theorem dX3_exposure_5 : decode cX3_exposure 5 = .ok (.aload_n 0, 1) := by decide +kernel
theorem dX3_exposure_6 : decode cX3_exposure 6 = .ok (.invokevirtual 114, 3) := by decide +kernel
theorem dX3_exposure_9 : decode cX3_exposure 9 = .ok (.istore_n 1, 1) := by decide +kernel
theorem dX3_exposure_10 : decode cX3_exposure 10 = .ok (.iconst 0, 1) := by decide +kernel
theorem dX3_exposure_11 : decode cX3_exposure 11 = .ok (.istore_n 2, 1) := by decide +kernel
theorem dX3_exposure_12 : decode cX3_exposure 12 = .ok (.iload_n 2, 1) := by decide +kernel
theorem dX3_exposure_13 : decode cX3_exposure 13 = .ok (.bipush 8, 2) := by decide +kernel
theorem dX3_exposure_15 : decode cX3_exposure 15 = .ok (.if_icmp .ge 17, 3) := by decide +kernel
theorem dX3_exposure_18 : decode cX3_exposure 18 = .ok (.iload_n 1, 1) := by decide +kernel
theorem dX3_exposure_19 : decode cX3_exposure 19 = .ok (.aload_n 0, 1) := by decide +kernel
theorem dX3_exposure_20 : decode cX3_exposure 20 = .ok (.iload_n 2, 1) := by decide +kernel
theorem dX3_exposure_21 : decode cX3_exposure 21 = .ok (.invokevirtual 120, 3) := by decide +kernel
theorem dX3_exposure_24 : decode cX3_exposure 24 = .ok (.ior, 1) := by decide +kernel
theorem dX3_exposure_25 : decode cX3_exposure 25 = .ok (.istore_n 1, 1) := by decide +kernel
theorem dX3_exposure_26 : decode cX3_exposure 26 = .ok (.iinc 2 1, 3) := by decide +kernel
theorem dX3_exposure_29 : decode cX3_exposure 29 = .ok (.goto (-17), 3) := by decide +kernel
theorem dX3_exposure_32 : decode cX3_exposure 32 = .ok (.aload_n 0, 1) := by decide +kernel
theorem dX3_exposure_33 : decode cX3_exposure 33 = .ok (.getfield 44, 3) := by decide +kernel
theorem dX3_exposure_36 : decode cX3_exposure 36 = .ok (.ifCond .ne 7, 3) := by decide +kernel
theorem dX3_exposure_39 : decode cX3_exposure 39 = .ok (.dconst 0, 1) := by decide +kernel
theorem dX3_exposure_40 : decode cX3_exposure 40 = .ok (.goto 14, 3) := by decide +kernel
theorem dX3_exposure_43 : decode cX3_exposure 43 = .ok (.iload_n 1, 1) := by decide +kernel
theorem dX3_exposure_44 : decode cX3_exposure 44 = .ok (.invokestatic 78, 3) := by decide +kernel
theorem dX3_exposure_47 : decode cX3_exposure 47 = .ok (.i2d, 1) := by decide +kernel
theorem dX3_exposure_48 : decode cX3_exposure 48 = .ok (.aload_n 0, 1) := by decide +kernel
theorem dX3_exposure_49 : decode cX3_exposure 49 = .ok (.getfield 44, 3) := by decide +kernel
theorem dX3_exposure_52 : decode cX3_exposure 52 = .ok (.i2d, 1) := by decide +kernel
theorem dX3_exposure_53 : decode cX3_exposure 53 = .ok (.ddiv, 1) := by decide +kernel
theorem dX3_exposure_54 : decode cX3_exposure 54 = .ok (.dreturn, 1) := by decide +kernel
set_option maxRecDepth 20000 in
theorem ggX3_digest_X3_pinsOf : GoodIn wsX3_digest wsX3_pinsOf := goodIn_r _ [15, 3, 7, 5, 16, 17, 14, 18, 19, 20, 21, 31, 32, 33, 34, 35, 36, 37, 38, 39, 40, 41, 42, 43, 44, 45] (by decide +kernel) (by decide +kernel)
set_option maxRecDepth 20000 in
theorem gX3_digest_X3_pinsOf : GoodIn wsX3_digest (wsV RX3 58 RX3 yX3_pinsOf wsX3_pinsOf) := goodIn_app (goodIn_of _ (by decide +kernel)) ggX3_digest_X3_pinsOf
set_option maxRecDepth 20000 in
theorem ggX3_digest_X3_told : GoodIn wsX3_digest wsX3_told := goodIn_r _ [25, 26, 27, 28, 29, 30, 31, 32, 33, 34, 35, 36, 37, 38, 39, 40, 41, 42, 43, 44, 45] (by decide +kernel) (by decide +kernel)
set_option maxRecDepth 20000 in
theorem gX3_digest_X3_told : GoodIn wsX3_digest (wsV RX3 117 RX3 yX3_told wsX3_told) := goodIn_app (goodIn_of _ (by decide +kernel)) ggX3_digest_X3_told
theorem dX3_digest_0 : decode cX3_digest 0 = .ok (.aload_n 0, 1) := by decide +kernel
theorem dX3_digest_1 : decode cX3_digest 1 = .ok (.iconst 0, 1) := by decide +kernel
theorem dX3_digest_2 : decode cX3_digest 2 = .ok (.putfield 37, 3) := by decide +kernel
theorem dX3_digest_5 : decode cX3_digest 5 = .ok (.ldc2_w 123, 3) := by decide +kernel
theorem dX3_digest_8 : decode cX3_digest 8 = .ok (.aload_n 0, 1) := by decide +kernel
theorem dX3_digest_9 : decode cX3_digest 9 = .ok (.getfield 41, 3) := by decide +kernel
theorem dX3_digest_12 : decode cX3_digest 12 = .ok (.i2l, 1) := by decide +kernel
theorem dX3_digest_13 : decode cX3_digest 13 = .ok (.ladd, 1) := by decide +kernel
theorem dX3_digest_14 : decode cX3_digest 14 = .ok (.lstore_n 1, 1) := by decide +kernel
theorem dX3_digest_15 : decode cX3_digest 15 = .ok (.iconst 0, 1) := by decide +kernel
theorem dX3_digest_16 : decode cX3_digest 16 = .ok (.istore_n 3, 1) := by decide +kernel
theorem dX3_digest_17 : decode cX3_digest 17 = .ok (.iload_n 3, 1) := by decide +kernel
theorem dX3_digest_18 : decode cX3_digest 18 = .ok (.aload_n 0, 1) := by decide +kernel
theorem dX3_digest_19 : decode cX3_digest 19 = .ok (.getfield 41, 3) := by decide +kernel
theorem dX3_digest_22 : decode cX3_digest 22 = .ok (.if_icmp .ge 23, 3) := by decide +kernel
theorem dX3_digest_25 : decode cX3_digest 25 = .ok (.lload_n 1, 1) := by decide +kernel
theorem dX3_digest_26 : decode cX3_digest 26 = .ok (.ldc2_w 125, 3) := by decide +kernel
theorem dX3_digest_29 : decode cX3_digest 29 = .ok (.lmul, 1) := by decide +kernel
theorem dX3_digest_30 : decode cX3_digest 30 = .ok (.aload_n 0, 1) := by decide +kernel
theorem dX3_digest_31 : decode cX3_digest 31 = .ok (.getfield 9, 3) := by decide +kernel
theorem dX3_digest_34 : decode cX3_digest 34 = .ok (.iload_n 3, 1) := by decide +kernel
theorem dX3_digest_35 : decode cX3_digest 35 = .ok (.iaload, 1) := by decide +kernel
theorem dX3_digest_36 : decode cX3_digest 36 = .ok (.i2l, 1) := by decide +kernel
theorem dX3_digest_37 : decode cX3_digest 37 = .ok (.ladd, 1) := by decide +kernel
theorem dX3_digest_38 : decode cX3_digest 38 = .ok (.lstore_n 1, 1) := by decide +kernel
theorem dX3_digest_39 : decode cX3_digest 39 = .ok (.iinc 3 1, 3) := by decide +kernel
theorem dX3_digest_42 : decode cX3_digest 42 = .ok (.goto (-25), 3) := by decide +kernel
theorem dX3_digest_45 : decode cX3_digest 45 = .ok (.lload_n 1, 1) := by decide +kernel
theorem dX3_digest_46 : decode cX3_digest 46 = .ok (.ldc2_w 125, 3) := by decide +kernel
theorem dX3_digest_49 : decode cX3_digest 49 = .ok (.lmul, 1) := by decide +kernel
theorem dX3_digest_50 : decode cX3_digest 50 = .ok (.aload_n 0, 1) := by decide +kernel
theorem dX3_digest_51 : decode cX3_digest 51 = .ok (.getfield 44, 3) := by decide +kernel
theorem dX3_digest_54 : decode cX3_digest 54 = .ok (.i2l, 1) := by decide +kernel
theorem dX3_digest_55 : decode cX3_digest 55 = .ok (.ladd, 1) := by decide +kernel
theorem dX3_digest_56 : decode cX3_digest 56 = .ok (.lstore_n 1, 1) := by decide +kernel
theorem dX3_digest_57 : decode cX3_digest 57 = .ok (.iconst 0, 1) := by decide +kernel
theorem dX3_digest_58 : decode cX3_digest 58 = .ok (.istore_n 3, 1) := by decide +kernel
theorem dX3_digest_59 : decode cX3_digest 59 = .ok (.iload_n 3, 1) := by decide +kernel
theorem dX3_digest_60 : decode cX3_digest 60 = .ok (.aload_n 0, 1) := by decide +kernel
theorem dX3_digest_61 : decode cX3_digest 61 = .ok (.getfield 44, 3) := by decide +kernel
theorem dX3_digest_64 : decode cX3_digest 64 = .ok (.if_icmp .ge 53, 3) := by decide +kernel
theorem dX3_digest_67 : decode cX3_digest 67 = .ok (.lload_n 1, 1) := by decide +kernel
theorem dX3_digest_68 : decode cX3_digest 68 = .ok (.ldc2_w 125, 3) := by decide +kernel
theorem dX3_digest_71 : decode cX3_digest 71 = .ok (.lmul, 1) := by decide +kernel
theorem dX3_digest_72 : decode cX3_digest 72 = .ok (.aload_n 0, 1) := by decide +kernel
theorem dX3_digest_73 : decode cX3_digest 73 = .ok (.getfield 13, 3) := by decide +kernel
theorem dX3_digest_76 : decode cX3_digest 76 = .ok (.iload_n 3, 1) := by decide +kernel
theorem dX3_digest_77 : decode cX3_digest 77 = .ok (.iaload, 1) := by decide +kernel
theorem dX3_digest_78 : decode cX3_digest 78 = .ok (.i2l, 1) := by decide +kernel
theorem dX3_digest_79 : decode cX3_digest 79 = .ok (.ladd, 1) := by decide +kernel
theorem dX3_digest_80 : decode cX3_digest 80 = .ok (.lstore_n 1, 1) := by decide +kernel
theorem dX3_digest_81 : decode cX3_digest 81 = .ok (.iconst 0, 1) := by decide +kernel
theorem dX3_digest_82 : decode cX3_digest 82 = .ok (.istore 4, 2) := by decide +kernel
theorem dX3_digest_84 : decode cX3_digest 84 = .ok (.iload 4, 2) := by decide +kernel
theorem dX3_digest_86 : decode cX3_digest 86 = .ok (.iconst 5, 1) := by decide +kernel
theorem dX3_digest_87 : decode cX3_digest 87 = .ok (.if_icmp .ge 24, 3) := by decide +kernel
theorem dX3_digest_90 : decode cX3_digest 90 = .ok (.lload_n 1, 1) := by decide +kernel
theorem dX3_digest_91 : decode cX3_digest 91 = .ok (.ldc2_w 125, 3) := by decide +kernel
theorem dX3_digest_94 : decode cX3_digest 94 = .ok (.lmul, 1) := by decide +kernel
theorem dX3_digest_95 : decode cX3_digest 95 = .ok (.aload_n 0, 1) := by decide +kernel
theorem dX3_digest_96 : decode cX3_digest 96 = .ok (.iload_n 3, 1) := by decide +kernel
theorem dX3_digest_97 : decode cX3_digest 97 = .ok (.iload 4, 2) := by decide +kernel
theorem dX3_digest_99 : decode cX3_digest 99 = .ok (.invokevirtual 58, 3) := by decide +kernel
theorem dX3_digest_102 : decode cX3_digest 102 = .ok (.i2l, 1) := by decide +kernel
theorem dX3_digest_103 : decode cX3_digest 103 = .ok (.ladd, 1) := by decide +kernel
theorem dX3_digest_104 : decode cX3_digest 104 = .ok (.lstore_n 1, 1) := by decide +kernel
theorem dX3_digest_105 : decode cX3_digest 105 = .ok (.iinc 4 1, 3) := by decide +kernel
theorem dX3_digest_108 : decode cX3_digest 108 = .ok (.goto (-24), 3) := by decide +kernel
theorem dX3_digest_111 : decode cX3_digest 111 = .ok (.iinc 3 1, 3) := by decide +kernel
theorem dX3_digest_114 : decode cX3_digest 114 = .ok (.goto (-55), 3) := by decide +kernel
theorem dX3_digest_117 : decode cX3_digest 117 = .ok (.lload_n 1, 1) := by decide +kernel
theorem dX3_digest_118 : decode cX3_digest 118 = .ok (.ldc2_w 125, 3) := by decide +kernel
theorem dX3_digest_121 : decode cX3_digest 121 = .ok (.lmul, 1) := by decide +kernel
theorem dX3_digest_122 : decode cX3_digest 122 = .ok (.aload_n 0, 1) := by decide +kernel
theorem dX3_digest_123 : decode cX3_digest 123 = .ok (.getfield 72, 3) := by decide +kernel
theorem dX3_digest_126 : decode cX3_digest 126 = .ok (.i2l, 1) := by decide +kernel
theorem dX3_digest_127 : decode cX3_digest 127 = .ok (.ladd, 1) := by decide +kernel
theorem dX3_digest_128 : decode cX3_digest 128 = .ok (.ldc2_w 125, 3) := by decide +kernel
theorem dX3_digest_131 : decode cX3_digest 131 = .ok (.lmul, 1) := by decide +kernel
theorem dX3_digest_132 : decode cX3_digest 132 = .ok (.aload_n 0, 1) := by decide +kernel
theorem dX3_digest_133 : decode cX3_digest 133 = .ok (.getfield 100, 3) := by decide +kernel
theorem dX3_digest_136 : decode cX3_digest 136 = .ok (.i2l, 1) := by decide +kernel
theorem dX3_digest_137 : decode cX3_digest 137 = .ok (.ladd, 1) := by decide +kernel
theorem dX3_digest_138 : decode cX3_digest 138 = .ok (.ldc2_w 125, 3) := by decide +kernel
theorem dX3_digest_141 : decode cX3_digest 141 = .ok (.lmul, 1) := by decide +kernel
theorem dX3_digest_142 : decode cX3_digest 142 = .ok (.aload_n 0, 1) := by decide +kernel
theorem dX3_digest_143 : decode cX3_digest 143 = .ok (.getfield 47, 3) := by decide +kernel
theorem dX3_digest_146 : decode cX3_digest 146 = .ok (.i2l, 1) := by decide +kernel
theorem dX3_digest_147 : decode cX3_digest 147 = .ok (.ladd, 1) := by decide +kernel
theorem dX3_digest_148 : decode cX3_digest 148 = .ok (.lstore_n 1, 1) := by decide +kernel
theorem dX3_digest_149 : decode cX3_digest 149 = .ok (.iconst 0, 1) := by decide +kernel
theorem dX3_digest_150 : decode cX3_digest 150 = .ok (.istore_n 3, 1) := by decide +kernel
theorem dX3_digest_151 : decode cX3_digest 151 = .ok (.iload_n 3, 1) := by decide +kernel
theorem dX3_digest_152 : decode cX3_digest 152 = .ok (.aload_n 0, 1) := by decide +kernel
theorem dX3_digest_153 : decode cX3_digest 153 = .ok (.getfield 47, 3) := by decide +kernel
theorem dX3_digest_156 : decode cX3_digest 156 = .ok (.if_icmp .ge 39, 3) := by decide +kernel
theorem dX3_digest_159 : decode cX3_digest 159 = .ok (.iconst 0, 1) := by decide +kernel
theorem dX3_digest_160 : decode cX3_digest 160 = .ok (.istore 4, 2) := by decide +kernel
theorem dX3_digest_162 : decode cX3_digest 162 = .ok (.iload 4, 2) := by decide +kernel
theorem dX3_digest_164 : decode cX3_digest 164 = .ok (.iconst 5, 1) := by decide +kernel
theorem dX3_digest_165 : decode cX3_digest 165 = .ok (.if_icmp .ge 24, 3) := by decide +kernel
theorem dX3_digest_168 : decode cX3_digest 168 = .ok (.lload_n 1, 1) := by decide +kernel
theorem dX3_digest_169 : decode cX3_digest 169 = .ok (.ldc2_w 125, 3) := by decide +kernel
theorem dX3_digest_172 : decode cX3_digest 172 = .ok (.lmul, 1) := by decide +kernel
theorem dX3_digest_173 : decode cX3_digest 173 = .ok (.aload_n 0, 1) := by decide +kernel
theorem dX3_digest_174 : decode cX3_digest 174 = .ok (.iload_n 3, 1) := by decide +kernel
theorem dX3_digest_175 : decode cX3_digest 175 = .ok (.iload 4, 2) := by decide +kernel
theorem dX3_digest_177 : decode cX3_digest 177 = .ok (.invokevirtual 117, 3) := by decide +kernel
theorem dX3_digest_180 : decode cX3_digest 180 = .ok (.i2l, 1) := by decide +kernel
theorem dX3_digest_181 : decode cX3_digest 181 = .ok (.ladd, 1) := by decide +kernel
theorem dX3_digest_182 : decode cX3_digest 182 = .ok (.lstore_n 1, 1) := by decide +kernel
theorem dX3_digest_183 : decode cX3_digest 183 = .ok (.iinc 4 1, 3) := by decide +kernel
theorem dX3_digest_186 : decode cX3_digest 186 = .ok (.goto (-24), 3) := by decide +kernel
theorem dX3_digest_189 : decode cX3_digest 189 = .ok (.iinc 3 1, 3) := by decide +kernel
theorem dX3_digest_192 : decode cX3_digest 192 = .ok (.goto (-41), 3) := by decide +kernel
theorem dX3_digest_195 : decode cX3_digest 195 = .ok (.lload_n 1, 1) := by decide +kernel
theorem dX3_digest_196 : decode cX3_digest 196 = .ok (.lreturn, 1) := by decide +kernel
theorem dJ6_bitCount_0f7a4_0 : decode cJ6_bitCount_0f7a4 0 = .ok (.iload_n 0, 1) := by decide +kernel
theorem dJ6_bitCount_0f7a4_1 : decode cJ6_bitCount_0f7a4 1 = .ok (.iload_n 0, 1) := by decide +kernel
theorem dJ6_bitCount_0f7a4_2 : decode cJ6_bitCount_0f7a4 2 = .ok (.iconst 1, 1) := by decide +kernel
theorem dJ6_bitCount_0f7a4_3 : decode cJ6_bitCount_0f7a4 3 = .ok (.iushr, 1) := by decide +kernel
theorem dJ6_bitCount_0f7a4_4 : decode cJ6_bitCount_0f7a4 4 = .ok (.ldc_w 265, 3) := by decide +kernel
theorem dJ6_bitCount_0f7a4_7 : decode cJ6_bitCount_0f7a4 7 = .ok (.iand, 1) := by decide +kernel
theorem dJ6_bitCount_0f7a4_8 : decode cJ6_bitCount_0f7a4 8 = .ok (.isub, 1) := by decide +kernel
theorem dJ6_bitCount_0f7a4_9 : decode cJ6_bitCount_0f7a4 9 = .ok (.istore_n 0, 1) := by decide +kernel
theorem dJ6_bitCount_0f7a4_10 : decode cJ6_bitCount_0f7a4 10 = .ok (.iload_n 0, 1) := by decide +kernel
theorem dJ6_bitCount_0f7a4_11 : decode cJ6_bitCount_0f7a4 11 = .ok (.ldc_w 266, 3) := by decide +kernel
theorem dJ6_bitCount_0f7a4_14 : decode cJ6_bitCount_0f7a4 14 = .ok (.iand, 1) := by decide +kernel
theorem dJ6_bitCount_0f7a4_15 : decode cJ6_bitCount_0f7a4 15 = .ok (.iload_n 0, 1) := by decide +kernel
theorem dJ6_bitCount_0f7a4_16 : decode cJ6_bitCount_0f7a4 16 = .ok (.iconst 2, 1) := by decide +kernel
theorem dJ6_bitCount_0f7a4_17 : decode cJ6_bitCount_0f7a4 17 = .ok (.iushr, 1) := by decide +kernel
theorem dJ6_bitCount_0f7a4_18 : decode cJ6_bitCount_0f7a4 18 = .ok (.ldc_w 266, 3) := by decide +kernel
theorem dJ6_bitCount_0f7a4_21 : decode cJ6_bitCount_0f7a4 21 = .ok (.iand, 1) := by decide +kernel
theorem dJ6_bitCount_0f7a4_22 : decode cJ6_bitCount_0f7a4 22 = .ok (.iadd, 1) := by decide +kernel
theorem dJ6_bitCount_0f7a4_23 : decode cJ6_bitCount_0f7a4 23 = .ok (.istore_n 0, 1) := by decide +kernel
theorem dJ6_bitCount_0f7a4_24 : decode cJ6_bitCount_0f7a4 24 = .ok (.iload_n 0, 1) := by decide +kernel
theorem dJ6_bitCount_0f7a4_25 : decode cJ6_bitCount_0f7a4 25 = .ok (.iload_n 0, 1) := by decide +kernel
theorem dJ6_bitCount_0f7a4_26 : decode cJ6_bitCount_0f7a4 26 = .ok (.iconst 4, 1) := by decide +kernel
theorem dJ6_bitCount_0f7a4_27 : decode cJ6_bitCount_0f7a4 27 = .ok (.iushr, 1) := by decide +kernel
theorem dJ6_bitCount_0f7a4_28 : decode cJ6_bitCount_0f7a4 28 = .ok (.iadd, 1) := by decide +kernel
theorem dJ6_bitCount_0f7a4_29 : decode cJ6_bitCount_0f7a4 29 = .ok (.ldc_w 267, 3) := by decide +kernel
theorem dJ6_bitCount_0f7a4_32 : decode cJ6_bitCount_0f7a4 32 = .ok (.iand, 1) := by decide +kernel
theorem dJ6_bitCount_0f7a4_33 : decode cJ6_bitCount_0f7a4 33 = .ok (.istore_n 0, 1) := by decide +kernel
theorem dJ6_bitCount_0f7a4_34 : decode cJ6_bitCount_0f7a4 34 = .ok (.iload_n 0, 1) := by decide +kernel
theorem dJ6_bitCount_0f7a4_35 : decode cJ6_bitCount_0f7a4 35 = .ok (.iload_n 0, 1) := by decide +kernel
theorem dJ6_bitCount_0f7a4_36 : decode cJ6_bitCount_0f7a4 36 = .ok (.bipush 8, 2) := by decide +kernel
theorem dJ6_bitCount_0f7a4_38 : decode cJ6_bitCount_0f7a4 38 = .ok (.iushr, 1) := by decide +kernel
theorem dJ6_bitCount_0f7a4_39 : decode cJ6_bitCount_0f7a4 39 = .ok (.iadd, 1) := by decide +kernel
theorem dJ6_bitCount_0f7a4_40 : decode cJ6_bitCount_0f7a4 40 = .ok (.istore_n 0, 1) := by decide +kernel
theorem dJ6_bitCount_0f7a4_41 : decode cJ6_bitCount_0f7a4 41 = .ok (.iload_n 0, 1) := by decide +kernel
theorem dJ6_bitCount_0f7a4_42 : decode cJ6_bitCount_0f7a4 42 = .ok (.iload_n 0, 1) := by decide +kernel
theorem dJ6_bitCount_0f7a4_43 : decode cJ6_bitCount_0f7a4 43 = .ok (.bipush 16, 2) := by decide +kernel
theorem dJ6_bitCount_0f7a4_45 : decode cJ6_bitCount_0f7a4 45 = .ok (.iushr, 1) := by decide +kernel
theorem dJ6_bitCount_0f7a4_46 : decode cJ6_bitCount_0f7a4 46 = .ok (.iadd, 1) := by decide +kernel
theorem dJ6_bitCount_0f7a4_47 : decode cJ6_bitCount_0f7a4 47 = .ok (.istore_n 0, 1) := by decide +kernel
theorem dJ6_bitCount_0f7a4_48 : decode cJ6_bitCount_0f7a4 48 = .ok (.iload_n 0, 1) := by decide +kernel
theorem dJ6_bitCount_0f7a4_49 : decode cJ6_bitCount_0f7a4 49 = .ok (.bipush 63, 2) := by decide +kernel
theorem dJ6_bitCount_0f7a4_51 : decode cJ6_bitCount_0f7a4 51 = .ok (.iand, 1) := by decide +kernel
theorem dJ6_bitCount_0f7a4_52 : decode cJ6_bitCount_0f7a4 52 = .ok (.ireturn, 1) := by decide +kernel
theorem dJ9_max_7cf53_0 : decode cJ9_max_7cf53 0 = .ok (.iload_n 0, 1) := by decide +kernel
theorem dJ9_max_7cf53_1 : decode cJ9_max_7cf53 1 = .ok (.iload_n 1, 1) := by decide +kernel
theorem dJ9_max_7cf53_2 : decode cJ9_max_7cf53 2 = .ok (.if_icmp .lt 7, 3) := by decide +kernel
theorem dJ9_max_7cf53_5 : decode cJ9_max_7cf53 5 = .ok (.iload_n 0, 1) := by decide +kernel
theorem dJ9_max_7cf53_6 : decode cJ9_max_7cf53 6 = .ok (.goto 4, 3) := by decide +kernel
theorem dJ9_max_7cf53_9 : decode cJ9_max_7cf53 9 = .ok (.iload_n 1, 1) := by decide +kernel
theorem dJ9_max_7cf53_10 : decode cJ9_max_7cf53 10 = .ok (.ireturn, 1) := by decide +kernel
