set_option maxRecDepth 20000 in
theorem ggL_law_X2_init : GoodIn wsL_law wsX2_init := goodIn_r _ [9, 10, 11, 12, 13, 14, 15, 16, 17, 18, 19, 20, 21, 22, 23, 24, 25, 26, 27, 28, 29, 30, 31, 32, 33, 34, 35, 36, 37, 38, 39, 40, 41, 42, 43, 44, 45, 46, 685, 686, 687, 688, 689, 705, 706, 707, 708, 709, 710, 711, 712, 713, 714, 715, 716, 717, 718, 719, 720] (by decide +kernel) (by decide +kernel)
set_option maxRecDepth 20000 in
theorem gL_law_X2_init : GoodIn wsL_law (wsX2_init) := ggL_law_X2_init
set_option maxRecDepth 20000 in
theorem ggL_law_X3_init : GoodIn wsL_law wsX3_init := goodIn_r _ [49, 50, 11, 12, 22, 51, 52, 53, 54, 55, 56, 57, 58, 59, 690, 691, 692, 693, 694, 695, 696, 697, 698, 699, 700, 701, 702, 703, 704] (by decide +kernel) (by decide +kernel)
set_option maxRecDepth 20000 in
theorem gL_law_X3_init : GoodIn wsL_law (wsX3_init) := ggL_law_X3_init
set_option maxRecDepth 20000 in
theorem ggL_law_L_addKey : GoodIn wsL_law wsL_addKey := goodIn_ca (goodIn_ca (goodIn_r _ [63, 64, 65, 66, 67, 68, 2, 69, 70, 71, 72, 73, 17, 74, 75, 76, 77, 16, 78, 33, 28, 79, 80, 81, 82, 29, 83, 84, 85, 685, 686, 687, 688, 689, 705, 706, 707, 708, 709, 710, 711, 712] (by decide +kernel) (by decide +kernel)) (goodIn_sub (fun _ h => List.mem_append_left _ (List.mem_append_left _ (List.mem_append_right _ h))) (by decide +kernel))) (goodIn_sub (fun _ h => List.mem_append_left _ (List.mem_append_right _ h)) (by decide +kernel))
set_option maxRecDepth 20000 in
theorem gL_law_L_addKey : GoodIn wsL_law (va_wsS RL 86 yL_addKey wsL_addKey) := goodIn_app (goodIn_of _ (by decide +kernel)) ggL_law_L_addKey
set_option maxRecDepth 20000 in
theorem ggL_law_X3_addKey : GoodIn wsL_law wsX3_addKey := goodIn_r _ [89, 90, 91, 51, 92, 93, 94, 5, 95, 690, 691, 692, 693, 694, 695, 696, 697, 698, 699, 700, 701, 702, 703, 704] (by decide +kernel) (by decide +kernel)
set_option maxRecDepth 20000 in
theorem gL_law_X3_addKey : GoodIn wsL_law (wsV RL 91 RX3 yX3_addKey wsX3_addKey) := goodIn_app (goodIn_of _ (by decide +kernel)) ggL_law_X3_addKey
set_option maxRecDepth 20000 in
theorem ggL_law_X3_thrown : GoodIn wsL_law wsX3_thrown := goodIn_r _ [99, 90, 690, 691, 692, 693, 694, 695, 696, 697, 698, 699, 700, 701, 702, 703, 704] (by decide +kernel) (by decide +kernel)
set_option maxRecDepth 20000 in
theorem gL_law_X3_thrown : GoodIn wsL_law (wsV RL 92 RX3 yX3_thrown wsX3_thrown) := goodIn_app (goodIn_of _ (by decide +kernel)) ggL_law_X3_thrown
set_option maxRecDepth 20000 in
theorem ggL_law_L_addDoor : GoodIn wsL_law wsL_addDoor := goodIn_ca (goodIn_ca (goodIn_r _ [102, 64, 65, 103, 104, 105, 2, 106, 72, 73, 17, 107, 108, 109, 110, 111, 70, 71, 74, 112, 113, 114, 115, 116, 117, 16, 118, 34, 119, 120, 121, 122, 30, 123, 124, 125, 126, 31, 35, 127, 128, 129, 130, 33, 29, 131, 132, 133, 134, 135, 136, 137, 685, 686, 687, 688, 689, 705, 706, 707, 708, 709, 710, 711, 712] (by decide +kernel) (by decide +kernel)) (goodIn_sub (fun _ h => List.mem_append_left _ (List.mem_append_right _ h)) (by decide +kernel))) (goodIn_sub (fun _ h => List.mem_append_left _ (List.mem_append_left _ (List.mem_append_right _ h))) (by decide +kernel))
set_option maxRecDepth 20000 in
theorem gL_law_L_addDoor : GoodIn wsL_law (va_wsS RL 96 yL_addDoor wsL_addDoor) := goodIn_app (goodIn_of _ (by decide +kernel)) ggL_law_L_addDoor
set_option maxRecDepth 20000 in
theorem ggL_law_X3_addDoor : GoodIn wsL_law wsX3_addDoor := goodIn_r _ [141, 90, 142, 52, 143, 144, 145, 146, 5, 147, 91, 92, 93, 94, 95, 148, 149, 150, 151, 152, 153, 154, 155, 51, 156, 157, 158, 159, 160, 161, 162, 132, 133, 134, 135, 136, 137, 690, 691, 692, 693, 694, 695, 696, 697, 698, 699, 700, 701, 702, 703, 704] (by decide +kernel) (by decide +kernel)
set_option maxRecDepth 20000 in
theorem gL_law_X3_addDoor : GoodIn wsL_law (wsV RL 98 RX3 yX3_addDoor wsX3_addDoor) := goodIn_app (goodIn_of _ (by decide +kernel)) ggL_law_X3_addDoor
set_option maxRecDepth 20000 in
theorem ggL_law_L_setRights : GoodIn wsL_law wsL_setRights := goodIn_ca (goodIn_ca (goodIn_r _ [165, 166, 64, 167, 168, 169, 2, 170, 17, 171, 172, 173, 174, 175, 176, 177, 107, 108, 109, 110, 111, 70, 71, 74, 112, 113, 114, 178, 120, 121, 16, 122, 30, 123, 124, 125, 126, 31, 35, 127, 128, 129, 130, 33, 29, 131, 132, 133, 134, 135, 136, 137, 685, 686, 687, 688, 689, 705, 706, 707, 708, 709, 710, 711, 712] (by decide +kernel) (by decide +kernel)) (goodIn_sub (fun _ h => List.mem_append_right _ h) (by decide +kernel))) (goodIn_sub (fun _ h => List.mem_append_left _ (List.mem_append_left _ (List.mem_append_right _ h))) (by decide +kernel))
set_option maxRecDepth 20000 in
theorem gL_law_L_setRights : GoodIn wsL_law (va_wsS RL 99 yL_setRights wsL_setRights) := goodIn_app (goodIn_of _ (by decide +kernel)) ggL_law_L_setRights
set_option maxRecDepth 20000 in
theorem ggL_law_X3_setRights : GoodIn wsL_law wsX3_setRights := goodIn_r _ [182, 90, 52, 143, 183, 184, 185, 5, 186, 142, 92, 93, 94, 95, 144, 145, 146, 147, 91, 148, 149, 150, 151, 152, 153, 154, 155, 51, 156, 157, 158, 159, 160, 161, 162, 132, 133, 134, 135, 136, 137, 690, 691, 692, 693, 694, 695, 696, 697, 698, 699, 700, 701, 702, 703, 704] (by decide +kernel) (by decide +kernel)
set_option maxRecDepth 20000 in
theorem gL_law_X3_setRights : GoodIn wsL_law (wsV RL 102 RX3 yX3_setRights wsX3_setRights) := goodIn_app (goodIn_of _ (by decide +kernel)) ggL_law_X3_setRights
set_option maxRecDepth 20000 in
theorem ggL_law_X2_keyCount : GoodIn wsL_law wsX2_keyCount := goodIn_r _ [190, 17, 74, 685, 686, 687, 688, 689, 705, 706, 707, 708, 709, 710, 711, 712] (by decide +kernel) (by decide +kernel)
set_option maxRecDepth 20000 in
theorem gL_law_X2_keyCount : GoodIn wsL_law (wsV RL 103 RX2 yX2_keyCount wsX2_keyCount) := goodIn_app (goodIn_of _ (by decide +kernel)) ggL_law_X2_keyCount
set_option maxRecDepth 20000 in
theorem ggL_law_X3_keyCount : GoodIn wsL_law wsX3_keyCount := goodIn_r _ [194, 90, 91, 690, 691, 692, 693, 694, 695, 696, 697, 698, 699, 700, 701, 702, 703, 704] (by decide +kernel) (by decide +kernel)
set_option maxRecDepth 20000 in
theorem gL_law_X3_keyCount : GoodIn wsL_law (wsV RL 106 RX3 yX3_keyCount wsX3_keyCount) := goodIn_app (goodIn_of _ (by decide +kernel)) ggL_law_X3_keyCount
set_option maxRecDepth 20000 in
theorem ggL_law_X2_doorCount : GoodIn wsL_law wsX2_doorCount := goodIn_r _ [198, 17, 107, 685, 686, 687, 688, 689, 705, 706, 707, 708, 709, 710, 711, 712] (by decide +kernel) (by decide +kernel)
set_option maxRecDepth 20000 in
theorem gL_law_X2_doorCount : GoodIn wsL_law (wsV RL 107 RX2 yX2_doorCount wsX2_doorCount) := goodIn_app (goodIn_of _ (by decide +kernel)) ggL_law_X2_doorCount
set_option maxRecDepth 20000 in
theorem ggL_law_X3_doorCount : GoodIn wsL_law wsX3_doorCount := goodIn_r _ [202, 90, 142, 690, 691, 692, 693, 694, 695, 696, 697, 698, 699, 700, 701, 702, 703, 704] (by decide +kernel) (by decide +kernel)
set_option maxRecDepth 20000 in
theorem gL_law_X3_doorCount : GoodIn wsL_law (wsV RL 110 RX3 yX3_doorCount wsX3_doorCount) := goodIn_app (goodIn_of _ (by decide +kernel)) ggL_law_X3_doorCount
set_option maxRecDepth 20000 in
theorem ggL_law_L_code : GoodIn wsL_law wsL_code := goodIn_ca (goodIn_r _ [205, 166, 206, 207, 208, 2, 209, 17, 210, 211, 212, 213, 214, 176, 177, 74, 685, 686, 687, 688, 689, 705, 706, 707, 708, 709, 710, 711, 712] (by decide +kernel) (by decide +kernel)) (goodIn_sub (fun _ h => List.mem_append_right _ h) (by decide +kernel))
set_option maxRecDepth 20000 in
theorem gL_law_L_code : GoodIn wsL_law (va_wsS RL 111 yL_code wsL_code) := goodIn_app (goodIn_of _ (by decide +kernel)) ggL_law_L_code
set_option maxRecDepth 20000 in
theorem ggL_law_X3_code : GoodIn wsL_law wsX3_code := goodIn_r _ [218, 90, 51, 219, 220, 221, 5, 222, 91, 92, 93, 94, 95, 690, 691, 692, 693, 694, 695, 696, 697, 698, 699, 700, 701, 702, 703, 704] (by decide +kernel) (by decide +kernel)
set_option maxRecDepth 20000 in
theorem gL_law_X3_code : GoodIn wsL_law (wsV RL 113 RX3 yX3_code wsX3_code) := goodIn_app (goodIn_of _ (by decide +kernel)) ggL_law_X3_code
set_option maxRecDepth 20000 in
theorem ggL_law_L_pins : GoodIn wsL_law wsL_pins := goodIn_ca (goodIn_r _ [225, 166, 226, 227, 228, 2, 229, 176, 177, 17, 172, 173, 174, 175, 107, 230, 231, 232, 16, 233, 31, 685, 686, 687, 688, 689, 705, 706, 707, 708, 709, 710, 711, 712] (by decide +kernel) (by decide +kernel)) (goodIn_sub (fun _ h => List.mem_append_right _ h) (by decide +kernel))
set_option maxRecDepth 20000 in
theorem gL_law_L_pins : GoodIn wsL_law (va_wsS RL 114 yL_pins wsL_pins) := goodIn_app (goodIn_of _ (by decide +kernel)) ggL_law_L_pins
set_option maxRecDepth 20000 in
theorem ggL_law_X3_pins : GoodIn wsL_law wsX3_pins := goodIn_r _ [237, 90, 183, 184, 185, 5, 186, 142, 152, 153, 154, 155, 91, 52, 51, 156, 157, 158, 159, 160, 161, 92, 93, 94, 95, 690, 691, 692, 693, 694, 695, 696, 697, 698, 699, 700, 701, 702, 703, 704] (by decide +kernel) (by decide +kernel)
set_option maxRecDepth 20000 in
theorem gL_law_X3_pins : GoodIn wsL_law (wsV RL 116 RX3 yX3_pins wsX3_pins) := goodIn_app (goodIn_of _ (by decide +kernel)) ggL_law_X3_pins
set_option maxRecDepth 20000 in
theorem ggL_law_L_opens : GoodIn wsL_law wsL_opens := goodIn_ca (goodIn_r _ [240, 166, 241, 242, 243, 2, 244, 17, 211, 212, 213, 214, 176, 177, 74, 172, 173, 174, 175, 107, 245, 246, 247, 16, 248, 31, 29, 249, 250, 685, 686, 687, 688, 689, 705, 706, 707, 708, 709, 710, 711, 712] (by decide +kernel) (by decide +kernel)) (goodIn_sub (fun _ h => List.mem_append_right _ h) (by decide +kernel))
set_option maxRecDepth 20000 in
theorem gL_law_L_opens : GoodIn wsL_law (va_wsS RL 117 yL_opens wsL_opens) := goodIn_app (goodIn_of _ (by decide +kernel)) ggL_law_L_opens
set_option maxRecDepth 20000 in
theorem ggL_law_X3_opens : GoodIn wsL_law wsX3_opens := goodIn_r _ [254, 90, 51, 219, 220, 221, 5, 222, 91, 183, 184, 185, 186, 142, 255, 256, 257, 258, 152, 153, 154, 155, 52, 156, 157, 158, 159, 160, 161, 690, 691, 692, 693, 694, 695, 696, 697, 698, 699, 700, 701, 702, 703, 704] (by decide +kernel) (by decide +kernel)
set_option maxRecDepth 20000 in
theorem gL_law_X3_opens : GoodIn wsL_law (wsV RL 119 RX3 yX3_opens wsX3_opens) := goodIn_app (goodIn_of _ (by decide +kernel)) ggL_law_X3_opens
set_option maxRecDepth 20000 in
theorem ggL_law_L_openers : GoodIn wsL_law wsL_openers := goodIn_ca (goodIn_r _ [261, 166, 262, 263, 264, 2, 265, 17, 172, 173, 174, 175, 176, 177, 107, 266, 267, 268, 16, 269, 33, 270, 246, 247, 248, 31, 29, 249, 250, 685, 686, 687, 688, 689, 705, 706, 707, 708, 709, 710, 711, 712] (by decide +kernel) (by decide +kernel)) (goodIn_sub (fun _ h => List.mem_append_right _ h) (by decide +kernel))
set_option maxRecDepth 20000 in
theorem gL_law_L_openers : GoodIn wsL_law (va_wsS RL 120 yL_openers wsL_openers) := goodIn_app (goodIn_of _ (by decide +kernel)) ggL_law_L_openers
set_option maxRecDepth 20000 in
theorem ggL_law_X3_openers : GoodIn wsL_law wsX3_openers := goodIn_r _ [274, 90, 91, 51, 183, 184, 185, 5, 186, 142, 92, 93, 94, 95, 255, 256, 257, 258, 152, 153, 154, 155, 52, 156, 157, 158, 159, 160, 161, 690, 691, 692, 693, 694, 695, 696, 697, 698, 699, 700, 701, 702, 703, 704] (by decide +kernel) (by decide +kernel)
set_option maxRecDepth 20000 in
theorem gL_law_X3_openers : GoodIn wsL_law (wsV RL 122 RX3 yX3_openers wsX3_openers) := goodIn_app (goodIn_of _ (by decide +kernel)) ggL_law_X3_openers
set_option maxRecDepth 20000 in
theorem ggL_law_L_doors : GoodIn wsL_law wsL_doors := goodIn_ca (goodIn_r _ [277, 166, 278, 279, 280, 2, 281, 17, 211, 212, 213, 214, 176, 177, 74, 282, 283, 284, 16, 285, 34, 270, 246, 247, 248, 31, 29, 249, 250, 685, 686, 687, 688, 689, 705, 706, 707, 708, 709, 710, 711, 712] (by decide +kernel) (by decide +kernel)) (goodIn_sub (fun _ h => List.mem_append_right _ h) (by decide +kernel))
set_option maxRecDepth 20000 in
theorem gL_law_L_doors : GoodIn wsL_law (va_wsS RL 123 yL_doors wsL_doors) := goodIn_app (goodIn_of _ (by decide +kernel)) ggL_law_L_doors
set_option maxRecDepth 20000 in
theorem ggL_law_X3_doors : GoodIn wsL_law wsX3_doors := goodIn_r _ [289, 90, 51, 219, 220, 221, 5, 222, 91, 290, 291, 292, 293, 142, 255, 256, 257, 258, 152, 153, 154, 155, 52, 156, 157, 158, 159, 160, 161, 92, 93, 94, 95, 690, 691, 692, 693, 694, 695, 696, 697, 698, 699, 700, 701, 702, 703, 704] (by decide +kernel) (by decide +kernel)
set_option maxRecDepth 20000 in
theorem gL_law_X3_doors : GoodIn wsL_law (wsV RL 125 RX3 yX3_doors wsX3_doors) := goodIn_app (goodIn_of _ (by decide +kernel)) ggL_law_X3_doors
set_option maxRecDepth 20000 in
theorem ggL_law_X2_strays : GoodIn wsL_law wsX2_strays := goodIn_r _ [297, 17, 298, 299, 300, 16, 301, 34, 30, 302, 267, 268, 269, 33, 270, 246, 247, 248, 31, 29, 249, 2, 250, 131, 132, 133, 134, 135, 136, 137, 685, 686, 687, 688, 689, 705, 706, 707, 708, 709, 710, 711, 712] (by decide +kernel) (by decide +kernel)
set_option maxRecDepth 20000 in
theorem gL_law_X2_strays : GoodIn wsL_law (wsV RL 126 RX2 yX2_strays wsX2_strays) := goodIn_app (goodIn_of _ (by decide +kernel)) ggL_law_X2_strays
set_option maxRecDepth 20000 in
theorem ggL_law_X3_strays : GoodIn wsL_law wsX3_strays := goodIn_r _ [306, 90, 307, 308, 309, 5, 310, 91, 142, 51, 52, 255, 256, 257, 258, 152, 153, 154, 155, 156, 157, 158, 159, 160, 161, 690, 691, 692, 693, 694, 695, 696, 697, 698, 699, 700, 701, 702, 703, 704] (by decide +kernel) (by decide +kernel)
set_option maxRecDepth 20000 in
theorem gL_law_X3_strays : GoodIn wsL_law (wsV RL 129 RX3 yX3_strays wsX3_strays) := goodIn_app (goodIn_of _ (by decide +kernel)) ggL_law_X3_strays
set_option maxRecDepth 20000 in
theorem ggL_law_L_codes : GoodIn wsL_law wsL_codes := goodIn_ca (goodIn_r _ [313, 166, 314, 315, 316, 2, 317, 17, 172, 173, 174, 175, 176, 177, 107, 318, 319, 320, 16, 321, 322, 231, 232, 233, 31, 131, 132, 133, 134, 135, 136, 137, 685, 686, 687, 688, 689, 705, 706, 707, 708, 709, 710, 711, 712] (by decide +kernel) (by decide +kernel)) (goodIn_sub (fun _ h => List.mem_append_right _ h) (by decide +kernel))
set_option maxRecDepth 20000 in
theorem gL_law_L_codes : GoodIn wsL_law (va_wsS RL 130 yL_codes wsL_codes) := goodIn_app (goodIn_of _ (by decide +kernel)) ggL_law_L_codes
set_option maxRecDepth 20000 in
theorem ggL_law_X3_codes : GoodIn wsL_law wsX3_codes := goodIn_r _ [326, 90, 183, 184, 185, 5, 186, 142, 92, 93, 94, 95, 255, 256, 257, 258, 152, 153, 154, 155, 91, 52, 51, 156, 157, 158, 159, 160, 161, 690, 691, 692, 693, 694, 695, 696, 697, 698, 699, 700, 701, 702, 703, 704] (by decide +kernel) (by decide +kernel)
set_option maxRecDepth 20000 in
theorem gL_law_X3_codes : GoodIn wsL_law (wsV RL 132 RX3 yX3_codes wsX3_codes) := goodIn_app (goodIn_of _ (by decide +kernel)) ggL_law_X3_codes
set_option maxRecDepth 20000 in
theorem ggL_law_L_isAbove : GoodIn wsL_law wsL_isAbove := goodIn_ca (goodIn_r _ [329, 166, 330, 331, 332, 2, 333, 17, 211, 212, 213, 214, 176, 177, 74, 282, 283, 284, 16, 285, 34, 270, 246, 247, 248, 31, 29, 249, 250, 334, 685, 686, 687, 688, 689, 705, 706, 707, 708, 709, 710, 711, 712] (by decide +kernel) (by decide +kernel)) (goodIn_sub (fun _ h => List.mem_append_right _ h) (by decide +kernel))
set_option maxRecDepth 20000 in
theorem gL_law_L_isAbove : GoodIn wsL_law (va_wsS RL 133 yL_isAbove wsL_isAbove) := goodIn_app (goodIn_of _ (by decide +kernel)) ggL_law_L_isAbove
set_option maxRecDepth 20000 in
theorem ggL_law_X3_isAbove : GoodIn wsL_law wsX3_isAbove := goodIn_r _ [338, 90, 51, 219, 220, 221, 5, 222, 91, 290, 291, 292, 293, 142, 255, 256, 257, 258, 152, 153, 154, 155, 52, 156, 157, 158, 159, 160, 161, 690, 691, 692, 693, 694, 695, 696, 697, 698, 699, 700, 701, 702, 703, 704] (by decide +kernel) (by decide +kernel)
set_option maxRecDepth 20000 in
theorem gL_law_X3_isAbove : GoodIn wsL_law (wsV RL 135 RX3 yX3_isAbove wsX3_isAbove) := goodIn_app (goodIn_of _ (by decide +kernel)) ggL_law_X3_isAbove
set_option maxRecDepth 20000 in
theorem ggL_law_X2_work : GoodIn wsL_law wsX2_work := goodIn_r _ [342, 17, 343, 685, 686, 687, 688, 689, 705, 706, 707, 708, 709, 710, 711, 712] (by decide +kernel) (by decide +kernel)
set_option maxRecDepth 20000 in
theorem gL_law_X2_work : GoodIn wsL_law (wsV RL 136 RX2 yX2_work wsX2_work) := goodIn_app (goodIn_of _ (by decide +kernel)) ggL_law_X2_work
set_option maxRecDepth 20000 in
theorem ggL_law_X3_work : GoodIn wsL_law wsX3_work := goodIn_r _ [347, 90, 143, 690, 691, 692, 693, 694, 695, 696, 697, 698, 699, 700, 701, 702, 703, 704] (by decide +kernel) (by decide +kernel)
set_option maxRecDepth 20000 in
theorem gL_law_X3_work : GoodIn wsL_law (wsV RL 139 RX3 yX3_work wsX3_work) := goodIn_app (goodIn_of _ (by decide +kernel)) ggL_law_X3_work
set_option maxRecDepth 20000 in
theorem ggL_law_L_replace : GoodIn wsL_law wsL_replace := goodIn_ca (goodIn_r _ [350, 166, 351, 352, 353, 2, 354, 17, 21, 13, 211, 212, 213, 214, 176, 177, 74, 355, 356, 357, 16, 358, 34, 32, 30, 127, 128, 129, 130, 33, 29, 83, 84, 85, 359, 76, 77, 78, 28, 360, 361, 362, 363, 364, 365, 366, 367, 249, 250, 368, 369, 370, 371, 372, 373, 374, 375, 31, 131, 132, 133, 134, 135, 136, 137, 376, 377, 378, 379, 123, 124, 125, 126, 35, 380, 381, 382, 20, 383, 46, 39, 384, 385, 386, 387, 40, 45, 388, 389, 390, 391, 41, 685, 686, 687, 688, 689, 705, 706, 707, 708, 709, 710, 711, 712, 713, 714, 715, 716, 717, 718, 719, 720] (by decide +kernel) (by decide +kernel)) (goodIn_sub (fun _ h => List.mem_append_right _ h) (by decide +kernel))
set_option maxRecDepth 20000 in
theorem gL_law_L_replace : GoodIn wsL_law (va_wsS RL 140 yL_replace wsL_replace) := goodIn_app (goodIn_of _ (by decide +kernel)) ggL_law_L_replace
set_option maxRecDepth 20000 in
theorem ggL_law_X3_replace : GoodIn wsL_law wsX3_replace := goodIn_r _ [395, 90, 51, 142, 22, 91, 143, 396, 53, 54, 219, 220, 221, 5, 222, 92, 93, 94, 95, 148, 149, 150, 151, 152, 153, 154, 155, 52, 156, 157, 158, 159, 160, 161, 290, 291, 292, 293, 255, 256, 257, 258, 307, 308, 309, 310, 162, 132, 133, 134, 135, 136, 137, 397, 398, 399, 400, 59, 56, 401, 690, 691, 692, 693, 694, 695, 696, 697, 698, 699, 700, 701, 702, 703, 704] (by decide +kernel) (by decide +kernel)
set_option maxRecDepth 20000 in
theorem gL_law_X3_replace : GoodIn wsL_law (wsV RL 142 RX3 yX3_replace wsX3_replace) := goodIn_app (goodIn_of _ (by decide +kernel)) ggL_law_X3_replace
set_option maxRecDepth 20000 in
theorem ggL_law_L_cut : GoodIn wsL_law wsL_cut := goodIn_ca (goodIn_ca (goodIn_r _ [404, 166, 65, 405, 406, 407, 2, 408, 72, 73, 21, 409, 211, 212, 213, 214, 176, 177, 17, 74, 410, 411, 412, 20, 413, 46, 39, 40, 685, 686, 687, 688, 689, 713, 714, 715, 716, 717, 718, 719, 720, 705, 706, 707, 708, 709, 710, 711, 712] (by decide +kernel) (by decide +kernel)) (goodIn_sub (fun _ h => List.mem_append_left _ (List.mem_append_right _ h)) (by decide +kernel))) (goodIn_sub (fun _ h => List.mem_append_right _ h) (by decide +kernel))
set_option maxRecDepth 20000 in
theorem gL_law_L_cut : GoodIn wsL_law (va_wsS RL 143 yL_cut wsL_cut) := goodIn_app (goodIn_of _ (by decide +kernel)) ggL_law_L_cut
set_option maxRecDepth 20000 in
theorem ggL_law_X3_cut : GoodIn wsL_law wsX3_cut := goodIn_r _ [417, 90, 396, 53, 54, 56, 219, 220, 221, 5, 222, 91, 92, 93, 94, 95, 690, 691, 692, 693, 694, 695, 696, 697, 698, 699, 700, 701, 702, 703, 704] (by decide +kernel) (by decide +kernel)
set_option maxRecDepth 20000 in
theorem gL_law_X3_cut : GoodIn wsL_law (wsV RL 145 RX3 yX3_cut wsX3_cut) := goodIn_app (goodIn_of _ (by decide +kernel)) ggL_law_X3_cut
set_option maxRecDepth 20000 in
theorem ggL_law_L_lend : GoodIn wsL_law wsL_lend := goodIn_ca (goodIn_ca (goodIn_ca (goodIn_r _ [420, 166, 64, 65, 421, 422, 423, 2, 424, 72, 73, 21, 13, 425, 426, 427, 428, 176, 177, 409, 429, 430, 431, 432, 433, 434, 435, 436, 70, 71, 437, 438, 439, 20, 440, 40, 41, 441, 442, 443, 444, 42, 43, 44, 45, 388, 389, 390, 391, 685, 686, 687, 688, 689, 713, 714, 715, 716, 717, 718, 719, 720] (by decide +kernel) (by decide +kernel)) (goodIn_sub (fun _ h => List.mem_append_left _ (List.mem_append_right _ h)) (by decide +kernel))) (goodIn_sub (fun _ h => List.mem_append_right _ h) (by decide +kernel))) (goodIn_sub (fun _ h => List.mem_append_left _ (List.mem_append_left _ (List.mem_append_right _ h))) (by decide +kernel))
set_option maxRecDepth 20000 in
theorem gL_law_L_lend : GoodIn wsL_law (va_wsS RL 146 yL_lend wsL_lend) := goodIn_app (goodIn_of _ (by decide +kernel)) ggL_law_L_lend
set_option maxRecDepth 20000 in
theorem ggL_law_X3_lend : GoodIn wsL_law wsX3_lend := goodIn_r _ [448, 90, 54, 56, 57, 58, 401, 59, 55, 449, 450, 451, 5, 452, 396, 453, 454, 455, 92, 93, 94, 95, 690, 691, 692, 693, 694, 695, 696, 697, 698, 699, 700, 701, 702, 703, 704] (by decide +kernel) (by decide +kernel)
set_option maxRecDepth 20000 in
theorem gL_law_X3_lend : GoodIn wsL_law (wsV RL 149 RX3 yX3_lend wsX3_lend) := goodIn_app (goodIn_of _ (by decide +kernel)) ggL_law_X3_lend
set_option maxRecDepth 20000 in
theorem ggL_law_L_giveBack : GoodIn wsL_law wsL_giveBack := goodIn_ca (goodIn_ca (goodIn_r _ [458, 166, 65, 459, 460, 461, 2, 462, 72, 73, 21, 463, 13, 464, 465, 466, 467, 425, 426, 427, 428, 176, 177, 409, 468, 469, 470, 20, 471, 40, 44, 388, 389, 390, 391, 41, 472, 385, 386, 387, 45, 685, 686, 687, 688, 689, 713, 714, 715, 716, 717, 718, 719, 720] (by decide +kernel) (by decide +kernel)) (goodIn_sub (fun _ h => List.mem_append_left _ (List.mem_append_right _ h)) (by decide +kernel))) (goodIn_sub (fun _ h => List.mem_append_right _ h) (by decide +kernel))
set_option maxRecDepth 20000 in
theorem gL_law_L_giveBack : GoodIn wsL_law (va_wsS RL 150 yL_giveBack wsL_giveBack) := goodIn_app (goodIn_of _ (by decide +kernel)) ggL_law_L_giveBack
set_option maxRecDepth 20000 in
theorem ggL_law_X3_giveBack : GoodIn wsL_law wsX3_giveBack := goodIn_r _ [476, 90, 54, 401, 55, 477, 465, 466, 467, 449, 450, 451, 5, 452, 396, 92, 93, 94, 95, 397, 398, 399, 400, 59, 56, 690, 691, 692, 693, 694, 695, 696, 697, 698, 699, 700, 701, 702, 703, 704] (by decide +kernel) (by decide +kernel)
set_option maxRecDepth 20000 in
theorem gL_law_X3_giveBack : GoodIn wsL_law (wsV RL 152 RX3 yX3_giveBack wsX3_giveBack) := goodIn_app (goodIn_of _ (by decide +kernel)) ggL_law_X3_giveBack
set_option maxRecDepth 20000 in
theorem ggL_law_L_lose : GoodIn wsL_law wsL_lose := goodIn_ca (goodIn_ca (goodIn_r _ [480, 166, 65, 481, 482, 483, 2, 484, 72, 73, 21, 463, 13, 17, 485, 425, 426, 427, 428, 176, 177, 409, 472, 385, 386, 20, 387, 40, 45, 388, 389, 390, 391, 41, 282, 283, 284, 16, 285, 34, 270, 246, 247, 248, 31, 29, 249, 250, 685, 686, 687, 688, 689, 713, 714, 715, 716, 717, 718, 719, 720, 705, 706, 707, 708, 709, 710, 711, 712] (by decide +kernel) (by decide +kernel)) (goodIn_sub (fun _ h => List.mem_append_left _ (List.mem_append_right _ h)) (by decide +kernel))) (goodIn_sub (fun _ h => List.mem_append_right _ h) (by decide +kernel))
set_option maxRecDepth 20000 in
theorem gL_law_L_lose : GoodIn wsL_law (va_wsS RL 153 yL_lose wsL_lose) := goodIn_app (goodIn_of _ (by decide +kernel)) ggL_law_L_lose
set_option maxRecDepth 20000 in
theorem ggL_law_X3_lose : GoodIn wsL_law wsX3_lose := goodIn_r _ [489, 90, 54, 51, 53, 449, 450, 451, 5, 452, 396, 92, 93, 94, 95, 397, 398, 399, 400, 59, 56, 401, 290, 291, 292, 293, 142, 255, 256, 257, 258, 152, 153, 154, 155, 91, 52, 156, 157, 158, 159, 160, 161, 690, 691, 692, 693, 694, 695, 696, 697, 698, 699, 700, 701, 702, 703, 704] (by decide +kernel) (by decide +kernel)
set_option maxRecDepth 20000 in
theorem gL_law_X3_lose : GoodIn wsL_law (wsV RL 155 RX3 yX3_lose wsX3_lose) := goodIn_app (goodIn_of _ (by decide +kernel)) ggL_law_X3_lose
set_option maxRecDepth 20000 in
theorem ggL_law_L_find : GoodIn wsL_law wsL_find := goodIn_ca (goodIn_ca (goodIn_r _ [492, 166, 65, 493, 494, 495, 2, 496, 72, 73, 21, 463, 13, 425, 426, 427, 428, 176, 177, 409, 472, 385, 386, 20, 387, 40, 45, 388, 389, 390, 391, 41, 497, 498, 499, 500, 17, 501, 502, 503, 504, 46, 39, 505, 506, 507, 16, 508, 33, 509, 283, 284, 285, 34, 270, 246, 247, 248, 31, 29, 249, 250, 685, 686, 687, 688, 689, 713, 714, 715, 716, 717, 718, 719, 720, 705, 706, 707, 708, 709, 710, 711, 712] (by decide +kernel) (by decide +kernel)) (goodIn_sub (fun _ h => List.mem_append_left _ (List.mem_append_right _ h)) (by decide +kernel))) (goodIn_sub (fun _ h => List.mem_append_right _ h) (by decide +kernel))
set_option maxRecDepth 20000 in
theorem gL_law_L_find : GoodIn wsL_law (va_wsS RL 156 yL_find wsL_find) := goodIn_app (goodIn_of _ (by decide +kernel)) ggL_law_L_find
set_option maxRecDepth 20000 in
theorem ggL_law_X3_find : GoodIn wsL_law wsX3_find := goodIn_r _ [513, 90, 54, 449, 450, 451, 5, 452, 396, 92, 93, 94, 95, 514, 515, 516, 517, 51, 53, 290, 291, 292, 293, 142, 255, 256, 257, 258, 152, 153, 154, 155, 91, 52, 156, 157, 158, 159, 160, 161, 690, 691, 692, 693, 694, 695, 696, 697, 698, 699, 700, 701, 702, 703, 704] (by decide +kernel) (by decide +kernel)
set_option maxRecDepth 20000 in
theorem gL_law_X3_find : GoodIn wsL_law (wsV RL 158 RX3 yX3_find wsX3_find) := goodIn_app (goodIn_of _ (by decide +kernel)) ggL_law_X3_find
set_option maxRecDepth 20000 in
theorem ggL_law_L_pass : GoodIn wsL_law wsL_pass := goodIn_ca (goodIn_ca (goodIn_r _ [520, 64, 65, 521, 522, 523, 2, 524, 72, 73, 13, 433, 434, 435, 436, 70, 71, 685, 686, 687, 688, 689] (by decide +kernel) (by decide +kernel)) (goodIn_sub (fun _ h => List.mem_append_left _ (List.mem_append_right _ h)) (by decide +kernel))) (goodIn_sub (fun _ h => List.mem_append_left _ (List.mem_append_left _ (List.mem_append_right _ h))) (by decide +kernel))
set_option maxRecDepth 20000 in
theorem gL_law_L_pass : GoodIn wsL_law (va_wsS RL 159 yL_pass wsL_pass) := goodIn_app (goodIn_of _ (by decide +kernel)) ggL_law_L_pass
set_option maxRecDepth 20000 in
theorem ggL_law_X3_pass : GoodIn wsL_law wsX3_pass := goodIn_r _ [528, 90, 401, 92, 93, 94, 5, 95, 690, 691, 692, 693, 694, 695, 696, 697, 698, 699, 700, 701, 702, 703, 704] (by decide +kernel) (by decide +kernel)
set_option maxRecDepth 20000 in
theorem gL_law_X3_pass : GoodIn wsL_law (wsV RL 161 RX3 yX3_pass wsX3_pass) := goodIn_app (goodIn_of _ (by decide +kernel)) ggL_law_X3_pass
set_option maxRecDepth 20000 in
theorem ggL_law_X2_today : GoodIn wsL_law wsX2_today := goodIn_r _ [532, 13, 685, 686, 687, 688, 689] (by decide +kernel) (by decide +kernel)
set_option maxRecDepth 20000 in
theorem gL_law_X2_today : GoodIn wsL_law (wsV RL 162 RX2 yX2_today wsX2_today) := goodIn_app (goodIn_of _ (by decide +kernel)) ggL_law_X2_today
set_option maxRecDepth 20000 in
theorem ggL_law_X3_today : GoodIn wsL_law wsX3_today := goodIn_r _ [536, 90, 401, 690, 691, 692, 693, 694, 695, 696, 697, 698, 699, 700, 701, 702, 703, 704] (by decide +kernel) (by decide +kernel)
set_option maxRecDepth 20000 in
theorem gL_law_X3_today : GoodIn wsL_law (wsV RL 165 RX3 yX3_today wsX3_today) := goodIn_app (goodIn_of _ (by decide +kernel)) ggL_law_X3_today
set_option maxRecDepth 20000 in
theorem ggL_law_X2_copyCount : GoodIn wsL_law wsX2_copyCount := goodIn_r _ [540, 21, 409, 685, 686, 687, 688, 689, 713, 714, 715, 716, 717, 718, 719, 720] (by decide +kernel) (by decide +kernel)
set_option maxRecDepth 20000 in
theorem gL_law_X2_copyCount : GoodIn wsL_law (wsV RL 166 RX2 yX2_copyCount wsX2_copyCount) := goodIn_app (goodIn_of _ (by decide +kernel)) ggL_law_X2_copyCount
set_option maxRecDepth 20000 in
theorem ggL_law_X3_copyCount : GoodIn wsL_law wsX3_copyCount := goodIn_r _ [544, 90, 396, 690, 691, 692, 693, 694, 695, 696, 697, 698, 699, 700, 701, 702, 703, 704] (by decide +kernel) (by decide +kernel)
set_option maxRecDepth 20000 in
theorem gL_law_X3_copyCount : GoodIn wsL_law (wsV RL 169 RX3 yX3_copyCount wsX3_copyCount) := goodIn_app (goodIn_of _ (by decide +kernel)) ggL_law_X3_copyCount
set_option maxRecDepth 20000 in
theorem ggL_law_L_copy : GoodIn wsL_law wsL_copy := goodIn_ca (goodIn_r _ [547, 166, 548, 549, 550, 2, 551, 176, 177, 21, 485, 463, 552, 425, 426, 427, 428, 409, 553, 554, 555, 20, 556, 40, 42, 388, 389, 390, 391, 41, 468, 469, 470, 471, 44, 685, 686, 687, 688, 689, 713, 714, 715, 716, 717, 718, 719, 720] (by decide +kernel) (by decide +kernel)) (goodIn_sub (fun _ h => List.mem_append_right _ h) (by decide +kernel))
set_option maxRecDepth 20000 in
theorem gL_law_L_copy : GoodIn wsL_law (va_wsS RL 170 yL_copy wsL_copy) := goodIn_app (goodIn_of _ (by decide +kernel)) ggL_law_L_copy
set_option maxRecDepth 20000 in
theorem ggL_law_X3_copy : GoodIn wsL_law wsX3_copy := goodIn_r _ [560, 90, 449, 450, 451, 5, 452, 396, 561, 562, 563, 564, 54, 53, 57, 56, 55, 92, 93, 94, 95, 690, 691, 692, 693, 694, 695, 696, 697, 698, 699, 700, 701, 702, 703, 704] (by decide +kernel) (by decide +kernel)
set_option maxRecDepth 20000 in
theorem gL_law_X3_copy : GoodIn wsL_law (wsV RL 172 RX3 yX3_copy wsX3_copy) := goodIn_app (goodIn_of _ (by decide +kernel)) ggL_law_X3_copy
set_option maxRecDepth 20000 in
theorem ggL_law_X2_overdue : GoodIn wsL_law wsX2_overdue := goodIn_r _ [568, 21, 13, 569, 570, 571, 20, 572, 46, 40, 573, 469, 470, 471, 44, 388, 389, 390, 391, 41, 685, 686, 687, 688, 689, 713, 714, 715, 716, 717, 718, 719, 720] (by decide +kernel) (by decide +kernel)
set_option maxRecDepth 20000 in
theorem gL_law_X2_overdue : GoodIn wsL_law (wsV RL 173 RX2 yX2_overdue wsX2_overdue) := goodIn_app (goodIn_of _ (by decide +kernel)) ggL_law_X2_overdue
set_option maxRecDepth 20000 in
theorem ggL_law_X3_overdue : GoodIn wsL_law wsX3_overdue := goodIn_r _ [577, 90, 396, 54, 401, 55, 690, 691, 692, 693, 694, 695, 696, 697, 698, 699, 700, 701, 702, 703, 704] (by decide +kernel) (by decide +kernel)
set_option maxRecDepth 20000 in
theorem gL_law_X3_overdue : GoodIn wsL_law (wsV RL 176 RX3 yX3_overdue wsX3_overdue) := goodIn_app (goodIn_of _ (by decide +kernel)) ggL_law_X3_overdue
set_option maxRecDepth 20000 in
theorem ggL_law_L_holderAt : GoodIn wsL_law wsL_holderAt := goodIn_ca (goodIn_ca (goodIn_r _ [580, 166, 64, 581, 582, 583, 2, 584, 70, 71, 13, 21, 425, 426, 427, 428, 176, 177, 409, 585, 586, 587, 20, 588, 41, 43, 45, 42, 685, 686, 687, 688, 689, 713, 714, 715, 716, 717, 718, 719, 720] (by decide +kernel) (by decide +kernel)) (goodIn_sub (fun _ h => List.mem_append_left _ (List.mem_append_left _ (List.mem_append_right _ h))) (by decide +kernel))) (goodIn_sub (fun _ h => List.mem_append_right _ h) (by decide +kernel))
set_option maxRecDepth 20000 in
theorem gL_law_L_holderAt : GoodIn wsL_law (va_wsS RL 177 yL_holderAt wsL_holderAt) := goodIn_app (goodIn_of _ (by decide +kernel)) ggL_law_L_holderAt
set_option maxRecDepth 20000 in
theorem ggL_law_X3_holderAt : GoodIn wsL_law wsX3_holderAt := goodIn_r _ [592, 90, 401, 56, 58, 59, 57, 449, 450, 451, 5, 452, 396, 92, 93, 94, 95, 690, 691, 692, 693, 694, 695, 696, 697, 698, 699, 700, 701, 702, 703, 704] (by decide +kernel) (by decide +kernel)
set_option maxRecDepth 20000 in
theorem gL_law_X3_holderAt : GoodIn wsL_law (wsV RL 179 RX3 yX3_holderAt wsX3_holderAt) := goodIn_app (goodIn_of _ (by decide +kernel)) ggL_law_X3_holderAt
set_option maxRecDepth 20000 in
theorem ggL_law_L_reach : GoodIn wsL_law wsL_reach := goodIn_ca (goodIn_r _ [595, 166, 596, 597, 598, 2, 599, 429, 430, 431, 432, 176, 177, 600, 601, 602, 603, 17, 21, 604, 605, 606, 20, 607, 46, 39, 608, 554, 555, 556, 40, 42, 388, 389, 390, 391, 41, 505, 506, 507, 16, 508, 33, 509, 283, 284, 285, 34, 270, 246, 247, 248, 31, 29, 249, 250, 685, 686, 687, 688, 689, 713, 714, 715, 716, 717, 718, 719, 720, 705, 706, 707, 708, 709, 710, 711, 712] (by decide +kernel) (by decide +kernel)) (goodIn_sub (fun _ h => List.mem_append_right _ h) (by decide +kernel))
set_option maxRecDepth 20000 in
theorem gL_law_L_reach : GoodIn wsL_law (va_wsS RL 180 yL_reach wsL_reach) := goodIn_app (goodIn_of _ (by decide +kernel)) ggL_law_L_reach
set_option maxRecDepth 20000 in
theorem ggL_law_X3_reach : GoodIn wsL_law wsX3_reach := goodIn_r _ [612, 90, 453, 454, 5, 455, 613, 614, 615, 616, 396, 54, 51, 53, 561, 562, 563, 564, 57, 56, 55, 290, 291, 292, 293, 142, 255, 256, 257, 258, 152, 153, 154, 155, 91, 52, 156, 157, 158, 159, 160, 161, 92, 93, 94, 95, 690, 691, 692, 693, 694, 695, 696, 697, 698, 699, 700, 701, 702, 703, 704] (by decide +kernel) (by decide +kernel)
set_option maxRecDepth 20000 in
theorem gL_law_X3_reach : GoodIn wsL_law (wsV RL 182 RX3 yX3_reach wsX3_reach) := goodIn_app (goodIn_of _ (by decide +kernel)) ggL_law_X3_reach
set_option maxRecDepth 20000 in
theorem ggL_law_X2_risk : GoodIn wsL_law wsX2_risk := goodIn_r _ [620, 497, 498, 499, 2, 500, 17, 21, 501, 502, 503, 20, 504, 46, 40, 39, 505, 506, 507, 16, 508, 33, 509, 283, 284, 285, 34, 270, 246, 247, 248, 31, 29, 249, 250, 685, 686, 687, 688, 689, 713, 714, 715, 716, 717, 718, 719, 720, 705, 706, 707, 708, 709, 710, 711, 712] (by decide +kernel) (by decide +kernel)
set_option maxRecDepth 20000 in
theorem gL_law_X2_risk : GoodIn wsL_law (wsV RL 183 RX2 yX2_risk wsX2_risk) := goodIn_app (goodIn_of _ (by decide +kernel)) ggL_law_X2_risk
set_option maxRecDepth 20000 in
theorem ggL_law_X3_risk : GoodIn wsL_law wsX3_risk := goodIn_r _ [624, 90, 514, 515, 516, 5, 517, 396, 54, 51, 53, 290, 291, 292, 293, 142, 255, 256, 257, 258, 152, 153, 154, 155, 91, 52, 156, 157, 158, 159, 160, 161, 690, 691, 692, 693, 694, 695, 696, 697, 698, 699, 700, 701, 702, 703, 704] (by decide +kernel) (by decide +kernel)
set_option maxRecDepth 20000 in
theorem gL_law_X3_risk : GoodIn wsL_law (wsV RL 186 RX3 yX3_risk wsX3_risk) := goodIn_app (goodIn_of _ (by decide +kernel)) ggL_law_X3_risk
set_option maxRecDepth 20000 in
theorem ggL_law_L_suggest : GoodIn wsL_law wsL_suggest := goodIn_ca (goodIn_ca (goodIn_r _ [627, 166, 64, 628, 629, 630, 2, 631, 70, 71, 17, 107, 74, 23, 21, 24, 429, 430, 431, 432, 176, 177, 112, 113, 114, 632, 633, 634, 20, 635, 46, 39, 636, 438, 439, 440, 40, 41, 282, 283, 284, 16, 285, 34, 270, 246, 247, 248, 31, 29, 249, 250, 600, 601, 602, 603, 604, 605, 606, 607, 608, 554, 555, 556, 42, 388, 389, 390, 391, 505, 506, 507, 508, 33, 509, 637, 638, 639, 640, 641, 642, 643, 644, 334, 645, 646, 647, 648, 649, 132, 133, 134, 135, 136, 137, 685, 686, 687, 688, 689, 705, 706, 707, 708, 709, 710, 711, 712, 713, 714, 715, 716, 717, 718, 719, 720] (by decide +kernel) (by decide +kernel)) (goodIn_sub (fun _ h => List.mem_append_left _ (List.mem_append_left _ (List.mem_append_right _ h))) (by decide +kernel))) (goodIn_sub (fun _ h => List.mem_append_right _ h) (by decide +kernel))
set_option maxRecDepth 20000 in
theorem gL_law_L_suggest : GoodIn wsL_law (va_wsS RL 187 yL_suggest wsL_suggest) := goodIn_app (goodIn_of _ (by decide +kernel)) ggL_law_L_suggest
set_option maxRecDepth 20000 in
theorem ggL_law_X3_suggest : GoodIn wsL_law wsX3_suggest := goodIn_r _ [653, 90, 142, 22, 396, 54, 56, 53, 91, 51, 453, 454, 5, 455, 92, 93, 94, 95, 613, 614, 615, 616, 561, 562, 563, 564, 57, 55, 290, 291, 292, 293, 255, 256, 257, 258, 152, 153, 154, 155, 52, 156, 157, 158, 159, 160, 161, 162, 132, 133, 134, 135, 136, 137, 690, 691, 692, 693, 694, 695, 696, 697, 698, 699, 700, 701, 702, 703, 704] (by decide +kernel) (by decide +kernel)
set_option maxRecDepth 20000 in
theorem gL_law_X3_suggest : GoodIn wsL_law (wsV RL 189 RX3 yX3_suggest wsX3_suggest) := goodIn_app (goodIn_of _ (by decide +kernel)) ggL_law_X3_suggest
set_option maxRecDepth 20000 in
theorem ggL_law_X2_exposure : GoodIn wsL_law wsX2_exposure := goodIn_r _ [657, 17, 107, 497, 498, 499, 2, 500, 21, 501, 502, 503, 20, 504, 46, 40, 39, 505, 506, 507, 16, 508, 33, 509, 283, 284, 285, 34, 270, 246, 247, 248, 31, 29, 249, 250, 600, 601, 602, 603, 604, 605, 606, 607, 608, 554, 555, 556, 42, 388, 389, 390, 391, 41, 649, 132, 133, 134, 135, 136, 137, 685, 686, 687, 688, 689, 705, 706, 707, 708, 709, 710, 711, 712, 713, 714, 715, 716, 717, 718, 719, 720] (by decide +kernel) (by decide +kernel)
set_option maxRecDepth 20000 in
theorem gL_law_X2_exposure : GoodIn wsL_law (wsV RL 190 RX2 yX2_exposure wsX2_exposure) := goodIn_app (goodIn_of _ (by decide +kernel)) ggL_law_X2_exposure
set_option maxRecDepth 20000 in
theorem ggL_law_X3_exposure : GoodIn wsL_law wsX3_exposure := goodIn_r _ [661, 90, 142, 514, 515, 516, 5, 517, 396, 54, 51, 53, 290, 291, 292, 293, 255, 256, 257, 258, 152, 153, 154, 155, 91, 52, 156, 157, 158, 159, 160, 161, 613, 614, 615, 616, 561, 562, 563, 564, 57, 56, 55, 162, 132, 133, 134, 135, 136, 137, 690, 691, 692, 693, 694, 695, 696, 697, 698, 699, 700, 701, 702, 703, 704] (by decide +kernel) (by decide +kernel)
set_option maxRecDepth 20000 in
theorem gL_law_X3_exposure : GoodIn wsL_law (wsV RL 194 RX3 yX3_exposure wsX3_exposure) := goodIn_app (goodIn_of _ (by decide +kernel)) ggL_law_X3_exposure
set_option maxRecDepth 20000 in
theorem ggL_law_X2_digest : GoodIn wsL_law wsX2_digest := goodIn_r _ [665, 666, 17, 74, 210, 107, 343, 13, 21, 409, 667, 668, 2, 669, 670, 671, 672, 673, 674, 171, 230, 231, 232, 16, 233, 31, 675, 676, 677, 678, 485, 463, 552, 553, 554, 555, 20, 556, 40, 42, 388, 389, 390, 391, 41, 468, 469, 470, 471, 44, 685, 686, 687, 688, 689, 705, 706, 707, 708, 709, 710, 711, 712, 713, 714, 715, 716, 717, 718, 719, 720] (by decide +kernel) (by decide +kernel)
set_option maxRecDepth 20000 in
theorem gL_law_X2_digest : GoodIn wsL_law (wsV RL 195 RX2 yX2_digest wsX2_digest) := goodIn_app (goodIn_of _ (by decide +kernel)) ggL_law_X2_digest
set_option maxRecDepth 20000 in
theorem ggL_law_X3_digest : GoodIn wsL_law wsX3_digest := goodIn_r _ [682, 90, 683, 91, 684, 51, 142, 52, 143, 401, 396, 152, 153, 154, 5, 155, 156, 157, 158, 159, 160, 161, 561, 562, 563, 564, 54, 53, 57, 56, 55, 690, 691, 692, 693, 694, 695, 696, 697, 698, 699, 700, 701, 702, 703, 704] (by decide +kernel) (by decide +kernel)
set_option maxRecDepth 20000 in
theorem gL_law_X3_digest : GoodIn wsL_law (wsV RL 199 RX3 yX3_digest wsX3_digest) := goodIn_app (goodIn_of _ (by decide +kernel)) ggL_law_X3_digest
theorem dL_law_0 : decode cL_law 0 = .ok (.new 8, 3) := by decide +kernel
theorem dL_law_3 : decode cL_law 3 = .ok (.dup, 1) := by decide +kernel
theorem dL_law_4 : decode cL_law 4 = .ok (.invokespecial 82, 3) := by decide +kernel
theorem dL_law_7 : decode cL_law 7 = .ok (.astore_n 1, 1) := by decide +kernel
theorem dL_law_8 : decode cL_law 8 = .ok (.new 83, 3) := by decide +kernel
theorem dL_law_11 : decode cL_law 11 = .ok (.dup, 1) := by decide +kernel
theorem dL_law_12 : decode cL_law 12 = .ok (.invokespecial 85, 3) := by decide +kernel
theorem dL_law_15 : decode cL_law 15 = .ok (.astore_n 2, 1) := by decide +kernel
theorem dL_law_16 : decode cL_law 16 = .ok (.iconst 1, 1) := by decide +kernel
theorem dL_law_17 : decode cL_law 17 = .ok (.newarray .long, 2) := by decide +kernel
theorem dL_law_19 : decode cL_law 19 = .ok (.astore_n 3, 1) := by decide +kernel
theorem dL_law_20 : decode cL_law 20 = .ok (.iconst 0, 1) := by decide +kernel
theorem dL_law_21 : decode cL_law 21 = .ok (.istore 4, 2) := by decide +kernel
theorem dL_law_23 : decode cL_law 23 = .ok (.iload 4, 2) := by decide +kernel
theorem dL_law_25 : decode cL_law 25 = .ok (.aload_n 0, 1) := by decide +kernel
theorem dL_law_26 : decode cL_law 26 = .ok (.arraylength, 1) := by decide +kernel
theorem dL_law_27 : decode cL_law 27 = .ok (.iconst 4, 1) := by decide +kernel
theorem dL_law_28 : decode cL_law 28 = .ok (.isub, 1) := by decide +kernel
theorem dL_law_29 : decode cL_law 29 = .ok (.if_icmp .gt 1610, 3) := by decide +kernel
theorem dL_law_32 : decode cL_law 32 = .ok (.aload_n 0, 1) := by decide +kernel
theorem dL_law_33 : decode cL_law 33 = .ok (.iload 4, 2) := by decide +kernel
theorem dL_law_35 : decode cL_law 35 = .ok (.iaload, 1) := by decide +kernel
theorem dL_law_36 : decode cL_law 36 = .ok (.bipush 31, 2) := by decide +kernel
theorem dL_law_38 : decode cL_law 38 = .ok (.iand, 1) := by decide +kernel
theorem dL_law_39 : decode cL_law 39 = .ok (.tableswitch 1594 0 30 #[137, 193, 249, 317, 330, 343, 399, 467, 542, 598, 654, 667, 723, 798, 811, 867, 923, 1003, 1059, 1115, 1171, 1227, 1240, 1253, 1321, 1334, 1402, 1458, 1471, 1539, 1580], 137) := by decide +kernel
theorem dL_law_176 : decode cL_law 176 = .ok (.aload_n 1, 1) := by decide +kernel
theorem dL_law_177 : decode cL_law 177 = .ok (.aload_n 0, 1) := by decide +kernel
theorem dL_law_178 : decode cL_law 178 = .ok (.iload 4, 2) := by decide +kernel
theorem dL_law_180 : decode cL_law 180 = .ok (.iconst 1, 1) := by decide +kernel
theorem dL_law_181 : decode cL_law 181 = .ok (.iadd, 1) := by decide +kernel
theorem dL_law_182 : decode cL_law 182 = .ok (.iaload, 1) := by decide +kernel
theorem dL_law_183 : decode cL_law 183 = .ok (.aload_n 3, 1) := by decide +kernel
theorem dL_law_184 : decode cL_law 184 = .ok (.invokestatic 86, 3) := by decide +kernel
theorem dL_law_187 : decode cL_law 187 = .ok (.istore 5, 2) := by decide +kernel
theorem dL_law_189 : decode cL_law 189 = .ok (.aload_n 2, 1) := by decide +kernel
theorem dL_law_190 : decode cL_law 190 = .ok (.aload_n 0, 1) := by decide +kernel
theorem dL_law_191 : decode cL_law 191 = .ok (.iload 4, 2) := by decide +kernel
theorem dL_law_193 : decode cL_law 193 = .ok (.iconst 1, 1) := by decide +kernel
theorem dL_law_194 : decode cL_law 194 = .ok (.iadd, 1) := by decide +kernel
theorem dL_law_195 : decode cL_law 195 = .ok (.iaload, 1) := by decide +kernel
theorem dL_law_196 : decode cL_law 196 = .ok (.invokevirtual 91, 3) := by decide +kernel
theorem dL_law_199 : decode cL_law 199 = .ok (.istore 6, 2) := by decide +kernel
theorem dL_law_201 : decode cL_law 201 = .ok (.aload_n 2, 1) := by decide +kernel
theorem dL_law_202 : decode cL_law 202 = .ok (.invokevirtual 92, 3) := by decide +kernel
theorem dL_law_205 : decode cL_law 205 = .ok (.iload 5, 2) := by decide +kernel
theorem dL_law_207 : decode cL_law 207 = .ok (.if_icmp .eq 5, 3) := by decide +kernel
theorem dL_law_210 : decode cL_law 210 = .ok (.iconst 0, 1) := by decide +kernel
theorem dL_law_211 : decode cL_law 211 = .ok (.ireturn, 1) := by decide +kernel
theorem dL_law_212 : decode cL_law 212 = .ok (.iload 5, 2) := by decide +kernel
theorem dL_law_214 : decode cL_law 214 = .ok (.ifCond .ne 15, 3) := by decide +kernel
theorem dL_law_217 : decode cL_law 217 = .ok (.aload_n 3, 1) := by decide +kernel
theorem dL_law_218 : decode cL_law 218 = .ok (.iconst 0, 1) := by decide +kernel
theorem dL_law_219 : decode cL_law 219 = .ok (.laload, 1) := by decide +kernel
theorem dL_law_220 : decode cL_law 220 = .ok (.iload 6, 2) := by decide +kernel
theorem dL_law_222 : decode cL_law 222 = .ok (.i2l, 1) := by decide +kernel
theorem dL_law_223 : decode cL_law 223 = .ok (.lcmp, 1) := by decide +kernel
theorem dL_law_224 : decode cL_law 224 = .ok (.ifCond .eq 5, 3) := by decide +kernel
theorem dL_law_227 : decode cL_law 227 = .ok (.iconst 0, 1) := by decide +kernel
theorem dL_law_228 : decode cL_law 228 = .ok (.ireturn, 1) := by decide +kernel
theorem dL_law_229 : decode cL_law 229 = .ok (.goto 1404, 3) := by decide +kernel
theorem dL_law_232 : decode cL_law 232 = .ok (.aload_n 1, 1) := by decide +kernel
theorem dL_law_233 : decode cL_law 233 = .ok (.aload_n 0, 1) := by decide +kernel
theorem dL_law_234 : decode cL_law 234 = .ok (.iload 4, 2) := by decide +kernel
theorem dL_law_236 : decode cL_law 236 = .ok (.iconst 1, 1) := by decide +kernel
theorem dL_law_237 : decode cL_law 237 = .ok (.iadd, 1) := by decide +kernel
theorem dL_law_238 : decode cL_law 238 = .ok (.iaload, 1) := by decide +kernel
theorem dL_law_239 : decode cL_law 239 = .ok (.aload_n 3, 1) := by decide +kernel
theorem dL_law_240 : decode cL_law 240 = .ok (.invokestatic 96, 3) := by decide +kernel
theorem dL_law_243 : decode cL_law 243 = .ok (.istore 5, 2) := by decide +kernel
theorem dL_law_245 : decode cL_law 245 = .ok (.aload_n 2, 1) := by decide +kernel
theorem dL_law_246 : decode cL_law 246 = .ok (.aload_n 0, 1) := by decide +kernel
theorem dL_law_247 : decode cL_law 247 = .ok (.iload 4, 2) := by decide +kernel
theorem dL_law_249 : decode cL_law 249 = .ok (.iconst 1, 1) := by decide +kernel
theorem dL_law_250 : decode cL_law 250 = .ok (.iadd, 1) := by decide +kernel
theorem dL_law_251 : decode cL_law 251 = .ok (.iaload, 1) := by decide +kernel
theorem dL_law_252 : decode cL_law 252 = .ok (.invokevirtual 98, 3) := by decide +kernel
theorem dL_law_255 : decode cL_law 255 = .ok (.istore 6, 2) := by decide +kernel
theorem dL_law_257 : decode cL_law 257 = .ok (.aload_n 2, 1) := by decide +kernel
theorem dL_law_258 : decode cL_law 258 = .ok (.invokevirtual 92, 3) := by decide +kernel
theorem dL_law_261 : decode cL_law 261 = .ok (.iload 5, 2) := by decide +kernel
theorem dL_law_263 : decode cL_law 263 = .ok (.if_icmp .eq 5, 3) := by decide +kernel
theorem dL_law_266 : decode cL_law 266 = .ok (.iconst 0, 1) := by decide +kernel
theorem dL_law_267 : decode cL_law 267 = .ok (.ireturn, 1) := by decide +kernel
theorem dL_law_268 : decode cL_law 268 = .ok (.iload 5, 2) := by decide +kernel
theorem dL_law_270 : decode cL_law 270 = .ok (.ifCond .ne 15, 3) := by decide +kernel
theorem dL_law_273 : decode cL_law 273 = .ok (.aload_n 3, 1) := by decide +kernel
theorem dL_law_274 : decode cL_law 274 = .ok (.iconst 0, 1) := by decide +kernel
theorem dL_law_275 : decode cL_law 275 = .ok (.laload, 1) := by decide +kernel
theorem dL_law_276 : decode cL_law 276 = .ok (.iload 6, 2) := by decide +kernel
theorem dL_law_278 : decode cL_law 278 = .ok (.i2l, 1) := by decide +kernel
theorem dL_law_279 : decode cL_law 279 = .ok (.lcmp, 1) := by decide +kernel
theorem dL_law_280 : decode cL_law 280 = .ok (.ifCond .eq 5, 3) := by decide +kernel
theorem dL_law_283 : decode cL_law 283 = .ok (.iconst 0, 1) := by decide +kernel
theorem dL_law_284 : decode cL_law 284 = .ok (.ireturn, 1) := by decide +kernel
theorem dL_law_285 : decode cL_law 285 = .ok (.goto 1348, 3) := by decide +kernel
theorem dL_law_288 : decode cL_law 288 = .ok (.aload_n 1, 1) := by decide +kernel
theorem dL_law_289 : decode cL_law 289 = .ok (.aload_n 0, 1) := by decide +kernel
theorem dL_law_290 : decode cL_law 290 = .ok (.iload 4, 2) := by decide +kernel
theorem dL_law_292 : decode cL_law 292 = .ok (.iconst 1, 1) := by decide +kernel
theorem dL_law_293 : decode cL_law 293 = .ok (.iadd, 1) := by decide +kernel
theorem dL_law_294 : decode cL_law 294 = .ok (.iaload, 1) := by decide +kernel
theorem dL_law_295 : decode cL_law 295 = .ok (.aload_n 0, 1) := by decide +kernel
theorem dL_law_296 : decode cL_law 296 = .ok (.iload 4, 2) := by decide +kernel
theorem dL_law_298 : decode cL_law 298 = .ok (.iconst 2, 1) := by decide +kernel
theorem dL_law_299 : decode cL_law 299 = .ok (.iadd, 1) := by decide +kernel
theorem dL_law_300 : decode cL_law 300 = .ok (.iaload, 1) := by decide +kernel
theorem dL_law_301 : decode cL_law 301 = .ok (.aload_n 3, 1) := by decide +kernel
theorem dL_law_302 : decode cL_law 302 = .ok (.invokestatic 99, 3) := by decide +kernel
theorem dL_law_305 : decode cL_law 305 = .ok (.istore 5, 2) := by decide +kernel
theorem dL_law_307 : decode cL_law 307 = .ok (.aload_n 2, 1) := by decide +kernel
theorem dL_law_308 : decode cL_law 308 = .ok (.aload_n 0, 1) := by decide +kernel
theorem dL_law_309 : decode cL_law 309 = .ok (.iload 4, 2) := by decide +kernel
theorem dL_law_311 : decode cL_law 311 = .ok (.iconst 1, 1) := by decide +kernel
theorem dL_law_312 : decode cL_law 312 = .ok (.iadd, 1) := by decide +kernel
theorem dL_law_313 : decode cL_law 313 = .ok (.iaload, 1) := by decide +kernel
theorem dL_law_314 : decode cL_law 314 = .ok (.aload_n 0, 1) := by decide +kernel
theorem dL_law_315 : decode cL_law 315 = .ok (.iload 4, 2) := by decide +kernel
theorem dL_law_317 : decode cL_law 317 = .ok (.iconst 2, 1) := by decide +kernel
theorem dL_law_318 : decode cL_law 318 = .ok (.iadd, 1) := by decide +kernel
theorem dL_law_319 : decode cL_law 319 = .ok (.iaload, 1) := by decide +kernel
theorem dL_law_320 : decode cL_law 320 = .ok (.invokevirtual 102, 3) := by decide +kernel
theorem dL_law_323 : decode cL_law 323 = .ok (.istore 6, 2) := by decide +kernel
theorem dL_law_325 : decode cL_law 325 = .ok (.aload_n 2, 1) := by decide +kernel
theorem dL_law_326 : decode cL_law 326 = .ok (.invokevirtual 92, 3) := by decide +kernel
theorem dL_law_329 : decode cL_law 329 = .ok (.iload 5, 2) := by decide +kernel
theorem dL_law_331 : decode cL_law 331 = .ok (.if_icmp .eq 5, 3) := by decide +kernel
theorem dL_law_334 : decode cL_law 334 = .ok (.iconst 0, 1) := by decide +kernel
theorem dL_law_335 : decode cL_law 335 = .ok (.ireturn, 1) := by decide +kernel
theorem dL_law_336 : decode cL_law 336 = .ok (.iload 5, 2) := by decide +kernel
theorem dL_law_338 : decode cL_law 338 = .ok (.ifCond .ne 15, 3) := by decide +kernel
theorem dL_law_341 : decode cL_law 341 = .ok (.aload_n 3, 1) := by decide +kernel
theorem dL_law_342 : decode cL_law 342 = .ok (.iconst 0, 1) := by decide +kernel
theorem dL_law_343 : decode cL_law 343 = .ok (.laload, 1) := by decide +kernel
theorem dL_law_344 : decode cL_law 344 = .ok (.iload 6, 2) := by decide +kernel
theorem dL_law_346 : decode cL_law 346 = .ok (.i2l, 1) := by decide +kernel
theorem dL_law_347 : decode cL_law 347 = .ok (.lcmp, 1) := by decide +kernel
theorem dL_law_348 : decode cL_law 348 = .ok (.ifCond .eq 5, 3) := by decide +kernel
theorem dL_law_351 : decode cL_law 351 = .ok (.iconst 0, 1) := by decide +kernel
theorem dL_law_352 : decode cL_law 352 = .ok (.ireturn, 1) := by decide +kernel
theorem dL_law_353 : decode cL_law 353 = .ok (.goto 1280, 3) := by decide +kernel
theorem dL_law_356 : decode cL_law 356 = .ok (.aload_n 1, 1) := by decide +kernel
theorem dL_law_357 : decode cL_law 357 = .ok (.invokevirtual 103, 3) := by decide +kernel
theorem dL_law_360 : decode cL_law 360 = .ok (.aload_n 2, 1) := by decide +kernel
theorem dL_law_361 : decode cL_law 361 = .ok (.invokevirtual 106, 3) := by decide +kernel
theorem dL_law_364 : decode cL_law 364 = .ok (.if_icmp .eq 1269, 3) := by decide +kernel
theorem dL_law_367 : decode cL_law 367 = .ok (.iconst 0, 1) := by decide +kernel
theorem dL_law_368 : decode cL_law 368 = .ok (.ireturn, 1) := by decide +kernel
theorem dL_law_369 : decode cL_law 369 = .ok (.aload_n 1, 1) := by decide +kernel
theorem dL_law_370 : decode cL_law 370 = .ok (.invokevirtual 107, 3) := by decide +kernel
theorem dL_law_373 : decode cL_law 373 = .ok (.aload_n 2, 1) := by decide +kernel
theorem dL_law_374 : decode cL_law 374 = .ok (.invokevirtual 110, 3) := by decide +kernel
theorem dL_law_377 : decode cL_law 377 = .ok (.if_icmp .eq 1256, 3) := by decide +kernel
theorem dL_law_380 : decode cL_law 380 = .ok (.iconst 0, 1) := by decide +kernel
theorem dL_law_381 : decode cL_law 381 = .ok (.ireturn, 1) := by decide +kernel
theorem dL_law_382 : decode cL_law 382 = .ok (.aload_n 1, 1) := by decide +kernel
theorem dL_law_383 : decode cL_law 383 = .ok (.aload_n 0, 1) := by decide +kernel
theorem dL_law_384 : decode cL_law 384 = .ok (.iload 4, 2) := by decide +kernel
theorem dL_law_386 : decode cL_law 386 = .ok (.iconst 1, 1) := by decide +kernel
theorem dL_law_387 : decode cL_law 387 = .ok (.iadd, 1) := by decide +kernel
theorem dL_law_388 : decode cL_law 388 = .ok (.iaload, 1) := by decide +kernel
theorem dL_law_389 : decode cL_law 389 = .ok (.aload_n 3, 1) := by decide +kernel
theorem dL_law_390 : decode cL_law 390 = .ok (.invokestatic 111, 3) := by decide +kernel
theorem dL_law_393 : decode cL_law 393 = .ok (.istore 5, 2) := by decide +kernel
theorem dL_law_395 : decode cL_law 395 = .ok (.aload_n 2, 1) := by decide +kernel
theorem dL_law_396 : decode cL_law 396 = .ok (.aload_n 0, 1) := by decide +kernel
theorem dL_law_397 : decode cL_law 397 = .ok (.iload 4, 2) := by decide +kernel
theorem dL_law_399 : decode cL_law 399 = .ok (.iconst 1, 1) := by decide +kernel
theorem dL_law_400 : decode cL_law 400 = .ok (.iadd, 1) := by decide +kernel
theorem dL_law_401 : decode cL_law 401 = .ok (.iaload, 1) := by decide +kernel
theorem dL_law_402 : decode cL_law 402 = .ok (.invokevirtual 113, 3) := by decide +kernel
theorem dL_law_405 : decode cL_law 405 = .ok (.istore 6, 2) := by decide +kernel
theorem dL_law_407 : decode cL_law 407 = .ok (.aload_n 2, 1) := by decide +kernel
theorem dL_law_408 : decode cL_law 408 = .ok (.invokevirtual 92, 3) := by decide +kernel
theorem dL_law_411 : decode cL_law 411 = .ok (.iload 5, 2) := by decide +kernel
theorem dL_law_413 : decode cL_law 413 = .ok (.if_icmp .eq 5, 3) := by decide +kernel
theorem dL_law_416 : decode cL_law 416 = .ok (.iconst 0, 1) := by decide +kernel
theorem dL_law_417 : decode cL_law 417 = .ok (.ireturn, 1) := by decide +kernel
theorem dL_law_418 : decode cL_law 418 = .ok (.iload 5, 2) := by decide +kernel
theorem dL_law_420 : decode cL_law 420 = .ok (.ifCond .ne 15, 3) := by decide +kernel
theorem dL_law_423 : decode cL_law 423 = .ok (.aload_n 3, 1) := by decide +kernel
theorem dL_law_424 : decode cL_law 424 = .ok (.iconst 0, 1) := by decide +kernel
theorem dL_law_425 : decode cL_law 425 = .ok (.laload, 1) := by decide +kernel
theorem dL_law_426 : decode cL_law 426 = .ok (.iload 6, 2) := by decide +kernel
theorem dL_law_428 : decode cL_law 428 = .ok (.i2l, 1) := by decide +kernel
theorem dL_law_429 : decode cL_law 429 = .ok (.lcmp, 1) := by decide +kernel
theorem dL_law_430 : decode cL_law 430 = .ok (.ifCond .eq 5, 3) := by decide +kernel
theorem dL_law_433 : decode cL_law 433 = .ok (.iconst 0, 1) := by decide +kernel
theorem dL_law_434 : decode cL_law 434 = .ok (.ireturn, 1) := by decide +kernel
theorem dL_law_435 : decode cL_law 435 = .ok (.goto 1198, 3) := by decide +kernel
theorem dL_law_438 : decode cL_law 438 = .ok (.aload_n 1, 1) := by decide +kernel
theorem dL_law_439 : decode cL_law 439 = .ok (.aload_n 0, 1) := by decide +kernel
theorem dL_law_440 : decode cL_law 440 = .ok (.iload 4, 2) := by decide +kernel
theorem dL_law_442 : decode cL_law 442 = .ok (.iconst 1, 1) := by decide +kernel
theorem dL_law_443 : decode cL_law 443 = .ok (.iadd, 1) := by decide +kernel
theorem dL_law_444 : decode cL_law 444 = .ok (.iaload, 1) := by decide +kernel
theorem dL_law_445 : decode cL_law 445 = .ok (.aload_n 0, 1) := by decide +kernel
theorem dL_law_446 : decode cL_law 446 = .ok (.iload 4, 2) := by decide +kernel
theorem dL_law_448 : decode cL_law 448 = .ok (.iconst 2, 1) := by decide +kernel
theorem dL_law_449 : decode cL_law 449 = .ok (.iadd, 1) := by decide +kernel
theorem dL_law_450 : decode cL_law 450 = .ok (.iaload, 1) := by decide +kernel
theorem dL_law_451 : decode cL_law 451 = .ok (.aload_n 3, 1) := by decide +kernel
theorem dL_law_452 : decode cL_law 452 = .ok (.invokestatic 114, 3) := by decide +kernel
theorem dL_law_455 : decode cL_law 455 = .ok (.istore 5, 2) := by decide +kernel
theorem dL_law_457 : decode cL_law 457 = .ok (.aload_n 2, 1) := by decide +kernel
theorem dL_law_458 : decode cL_law 458 = .ok (.aload_n 0, 1) := by decide +kernel
theorem dL_law_459 : decode cL_law 459 = .ok (.iload 4, 2) := by decide +kernel
theorem dL_law_461 : decode cL_law 461 = .ok (.iconst 1, 1) := by decide +kernel
theorem dL_law_462 : decode cL_law 462 = .ok (.iadd, 1) := by decide +kernel
theorem dL_law_463 : decode cL_law 463 = .ok (.iaload, 1) := by decide +kernel
theorem dL_law_464 : decode cL_law 464 = .ok (.aload_n 0, 1) := by decide +kernel
theorem dL_law_465 : decode cL_law 465 = .ok (.iload 4, 2) := by decide +kernel
theorem dL_law_467 : decode cL_law 467 = .ok (.iconst 2, 1) := by decide +kernel
theorem dL_law_468 : decode cL_law 468 = .ok (.iadd, 1) := by decide +kernel
theorem dL_law_469 : decode cL_law 469 = .ok (.iaload, 1) := by decide +kernel
theorem dL_law_470 : decode cL_law 470 = .ok (.invokevirtual 116, 3) := by decide +kernel
theorem dL_law_473 : decode cL_law 473 = .ok (.istore 6, 2) := by decide +kernel
theorem dL_law_475 : decode cL_law 475 = .ok (.aload_n 2, 1) := by decide +kernel
theorem dL_law_476 : decode cL_law 476 = .ok (.invokevirtual 92, 3) := by decide +kernel
theorem dL_law_479 : decode cL_law 479 = .ok (.iload 5, 2) := by decide +kernel
theorem dL_law_481 : decode cL_law 481 = .ok (.if_icmp .eq 5, 3) := by decide +kernel
theorem dL_law_484 : decode cL_law 484 = .ok (.iconst 0, 1) := by decide +kernel
theorem dL_law_485 : decode cL_law 485 = .ok (.ireturn, 1) := by decide +kernel
theorem dL_law_486 : decode cL_law 486 = .ok (.iload 5, 2) := by decide +kernel
theorem dL_law_488 : decode cL_law 488 = .ok (.ifCond .ne 15, 3) := by decide +kernel
theorem dL_law_491 : decode cL_law 491 = .ok (.aload_n 3, 1) := by decide +kernel
theorem dL_law_492 : decode cL_law 492 = .ok (.iconst 0, 1) := by decide +kernel
theorem dL_law_493 : decode cL_law 493 = .ok (.laload, 1) := by decide +kernel
theorem dL_law_494 : decode cL_law 494 = .ok (.iload 6, 2) := by decide +kernel
theorem dL_law_496 : decode cL_law 496 = .ok (.i2l, 1) := by decide +kernel
theorem dL_law_497 : decode cL_law 497 = .ok (.lcmp, 1) := by decide +kernel
theorem dL_law_498 : decode cL_law 498 = .ok (.ifCond .eq 5, 3) := by decide +kernel
theorem dL_law_501 : decode cL_law 501 = .ok (.iconst 0, 1) := by decide +kernel
theorem dL_law_502 : decode cL_law 502 = .ok (.ireturn, 1) := by decide +kernel
theorem dL_law_503 : decode cL_law 503 = .ok (.goto 1130, 3) := by decide +kernel
theorem dL_law_506 : decode cL_law 506 = .ok (.aload_n 1, 1) := by decide +kernel
theorem dL_law_507 : decode cL_law 507 = .ok (.aload_n 0, 1) := by decide +kernel
theorem dL_law_508 : decode cL_law 508 = .ok (.iload 4, 2) := by decide +kernel
theorem dL_law_510 : decode cL_law 510 = .ok (.iconst 1, 1) := by decide +kernel
theorem dL_law_511 : decode cL_law 511 = .ok (.iadd, 1) := by decide +kernel
theorem dL_law_512 : decode cL_law 512 = .ok (.iaload, 1) := by decide +kernel
theorem dL_law_513 : decode cL_law 513 = .ok (.aload_n 0, 1) := by decide +kernel
theorem dL_law_514 : decode cL_law 514 = .ok (.iload 4, 2) := by decide +kernel
theorem dL_law_516 : decode cL_law 516 = .ok (.iconst 2, 1) := by decide +kernel
theorem dL_law_517 : decode cL_law 517 = .ok (.iadd, 1) := by decide +kernel
theorem dL_law_518 : decode cL_law 518 = .ok (.iaload, 1) := by decide +kernel
theorem dL_law_519 : decode cL_law 519 = .ok (.aload_n 3, 1) := by decide +kernel
theorem dL_law_520 : decode cL_law 520 = .ok (.invokestatic 117, 3) := by decide +kernel
theorem dL_law_523 : decode cL_law 523 = .ok (.istore 5, 2) := by decide +kernel
theorem dL_law_525 : decode cL_law 525 = .ok (.aload_n 2, 1) := by decide +kernel
theorem dL_law_526 : decode cL_law 526 = .ok (.aload_n 0, 1) := by decide +kernel
theorem dL_law_527 : decode cL_law 527 = .ok (.iload 4, 2) := by decide +kernel
theorem dL_law_529 : decode cL_law 529 = .ok (.iconst 1, 1) := by decide +kernel
theorem dL_law_530 : decode cL_law 530 = .ok (.iadd, 1) := by decide +kernel
theorem dL_law_531 : decode cL_law 531 = .ok (.iaload, 1) := by decide +kernel
theorem dL_law_532 : decode cL_law 532 = .ok (.aload_n 0, 1) := by decide +kernel
theorem dL_law_533 : decode cL_law 533 = .ok (.iload 4, 2) := by decide +kernel
theorem dL_law_535 : decode cL_law 535 = .ok (.iconst 2, 1) := by decide +kernel
theorem dL_law_536 : decode cL_law 536 = .ok (.iadd, 1) := by decide +kernel
theorem dL_law_537 : decode cL_law 537 = .ok (.iaload, 1) := by decide +kernel
theorem dL_law_538 : decode cL_law 538 = .ok (.invokevirtual 119, 3) := by decide +kernel
theorem dL_law_541 : decode cL_law 541 = .ok (.istore 6, 2) := by decide +kernel
theorem dL_law_543 : decode cL_law 543 = .ok (.aload_n 2, 1) := by decide +kernel
theorem dL_law_544 : decode cL_law 544 = .ok (.invokevirtual 92, 3) := by decide +kernel
theorem dL_law_547 : decode cL_law 547 = .ok (.iload 5, 2) := by decide +kernel
theorem dL_law_549 : decode cL_law 549 = .ok (.if_icmp .eq 5, 3) := by decide +kernel
theorem dL_law_552 : decode cL_law 552 = .ok (.iconst 0, 1) := by decide +kernel
theorem dL_law_553 : decode cL_law 553 = .ok (.ireturn, 1) := by decide +kernel
theorem dL_law_554 : decode cL_law 554 = .ok (.iload 5, 2) := by decide +kernel
theorem dL_law_556 : decode cL_law 556 = .ok (.ifCond .ne 22, 3) := by decide +kernel
theorem dL_law_559 : decode cL_law 559 = .ok (.aload_n 3, 1) := by decide +kernel
theorem dL_law_560 : decode cL_law 560 = .ok (.iconst 0, 1) := by decide +kernel
theorem dL_law_561 : decode cL_law 561 = .ok (.laload, 1) := by decide +kernel
theorem dL_law_562 : decode cL_law 562 = .ok (.iload 6, 2) := by decide +kernel
theorem dL_law_564 : decode cL_law 564 = .ok (.ifCond .eq 7, 3) := by decide +kernel
theorem dL_law_567 : decode cL_law 567 = .ok (.lconst 1, 1) := by decide +kernel
theorem dL_law_568 : decode cL_law 568 = .ok (.goto 4, 3) := by decide +kernel
theorem dL_law_571 : decode cL_law 571 = .ok (.lconst 0, 1) := by decide +kernel
theorem dL_law_572 : decode cL_law 572 = .ok (.lcmp, 1) := by decide +kernel
theorem dL_law_573 : decode cL_law 573 = .ok (.ifCond .eq 5, 3) := by decide +kernel
theorem dL_law_576 : decode cL_law 576 = .ok (.iconst 0, 1) := by decide +kernel
theorem dL_law_577 : decode cL_law 577 = .ok (.ireturn, 1) := by decide +kernel
theorem dL_law_578 : decode cL_law 578 = .ok (.goto 1055, 3) := by decide +kernel
theorem dL_law_581 : decode cL_law 581 = .ok (.aload_n 1, 1) := by decide +kernel
theorem dL_law_582 : decode cL_law 582 = .ok (.aload_n 0, 1) := by decide +kernel
theorem dL_law_583 : decode cL_law 583 = .ok (.iload 4, 2) := by decide +kernel
theorem dL_law_585 : decode cL_law 585 = .ok (.iconst 1, 1) := by decide +kernel
theorem dL_law_586 : decode cL_law 586 = .ok (.iadd, 1) := by decide +kernel
theorem dL_law_587 : decode cL_law 587 = .ok (.iaload, 1) := by decide +kernel
theorem dL_law_588 : decode cL_law 588 = .ok (.aload_n 3, 1) := by decide +kernel
theorem dL_law_589 : decode cL_law 589 = .ok (.invokestatic 120, 3) := by decide +kernel
theorem dL_law_592 : decode cL_law 592 = .ok (.istore 5, 2) := by decide +kernel
theorem dL_law_594 : decode cL_law 594 = .ok (.aload_n 2, 1) := by decide +kernel
theorem dL_law_595 : decode cL_law 595 = .ok (.aload_n 0, 1) := by decide +kernel
theorem dL_law_596 : decode cL_law 596 = .ok (.iload 4, 2) := by decide +kernel
theorem dL_law_598 : decode cL_law 598 = .ok (.iconst 1, 1) := by decide +kernel
theorem dL_law_599 : decode cL_law 599 = .ok (.iadd, 1) := by decide +kernel
theorem dL_law_600 : decode cL_law 600 = .ok (.iaload, 1) := by decide +kernel
theorem dL_law_601 : decode cL_law 601 = .ok (.invokevirtual 122, 3) := by decide +kernel
theorem dL_law_604 : decode cL_law 604 = .ok (.istore 6, 2) := by decide +kernel
theorem dL_law_606 : decode cL_law 606 = .ok (.aload_n 2, 1) := by decide +kernel
theorem dL_law_607 : decode cL_law 607 = .ok (.invokevirtual 92, 3) := by decide +kernel
theorem dL_law_610 : decode cL_law 610 = .ok (.iload 5, 2) := by decide +kernel
theorem dL_law_612 : decode cL_law 612 = .ok (.if_icmp .eq 5, 3) := by decide +kernel
theorem dL_law_615 : decode cL_law 615 = .ok (.iconst 0, 1) := by decide +kernel
theorem dL_law_616 : decode cL_law 616 = .ok (.ireturn, 1) := by decide +kernel
theorem dL_law_617 : decode cL_law 617 = .ok (.iload 5, 2) := by decide +kernel
theorem dL_law_619 : decode cL_law 619 = .ok (.ifCond .ne 15, 3) := by decide +kernel
theorem dL_law_622 : decode cL_law 622 = .ok (.aload_n 3, 1) := by decide +kernel
theorem dL_law_623 : decode cL_law 623 = .ok (.iconst 0, 1) := by decide +kernel
theorem dL_law_624 : decode cL_law 624 = .ok (.laload, 1) := by decide +kernel
theorem dL_law_625 : decode cL_law 625 = .ok (.iload 6, 2) := by decide +kernel
theorem dL_law_627 : decode cL_law 627 = .ok (.i2l, 1) := by decide +kernel
theorem dL_law_628 : decode cL_law 628 = .ok (.lcmp, 1) := by decide +kernel
theorem dL_law_629 : decode cL_law 629 = .ok (.ifCond .eq 5, 3) := by decide +kernel
theorem dL_law_632 : decode cL_law 632 = .ok (.iconst 0, 1) := by decide +kernel
theorem dL_law_633 : decode cL_law 633 = .ok (.ireturn, 1) := by decide +kernel
theorem dL_law_634 : decode cL_law 634 = .ok (.goto 999, 3) := by decide +kernel
theorem dL_law_637 : decode cL_law 637 = .ok (.aload_n 1, 1) := by decide +kernel
theorem dL_law_638 : decode cL_law 638 = .ok (.aload_n 0, 1) := by decide +kernel
theorem dL_law_639 : decode cL_law 639 = .ok (.iload 4, 2) := by decide +kernel
theorem dL_law_641 : decode cL_law 641 = .ok (.iconst 1, 1) := by decide +kernel
theorem dL_law_642 : decode cL_law 642 = .ok (.iadd, 1) := by decide +kernel
theorem dL_law_643 : decode cL_law 643 = .ok (.iaload, 1) := by decide +kernel
theorem dL_law_644 : decode cL_law 644 = .ok (.aload_n 3, 1) := by decide +kernel
theorem dL_law_645 : decode cL_law 645 = .ok (.invokestatic 123, 3) := by decide +kernel
theorem dL_law_648 : decode cL_law 648 = .ok (.istore 5, 2) := by decide +kernel
theorem dL_law_650 : decode cL_law 650 = .ok (.aload_n 2, 1) := by decide +kernel
theorem dL_law_651 : decode cL_law 651 = .ok (.aload_n 0, 1) := by decide +kernel
theorem dL_law_652 : decode cL_law 652 = .ok (.iload 4, 2) := by decide +kernel
theorem dL_law_654 : decode cL_law 654 = .ok (.iconst 1, 1) := by decide +kernel
theorem dL_law_655 : decode cL_law 655 = .ok (.iadd, 1) := by decide +kernel
theorem dL_law_656 : decode cL_law 656 = .ok (.iaload, 1) := by decide +kernel
theorem dL_law_657 : decode cL_law 657 = .ok (.invokevirtual 125, 3) := by decide +kernel
theorem dL_law_660 : decode cL_law 660 = .ok (.istore 6, 2) := by decide +kernel
theorem dL_law_662 : decode cL_law 662 = .ok (.aload_n 2, 1) := by decide +kernel
theorem dL_law_663 : decode cL_law 663 = .ok (.invokevirtual 92, 3) := by decide +kernel
theorem dL_law_666 : decode cL_law 666 = .ok (.iload 5, 2) := by decide +kernel
theorem dL_law_668 : decode cL_law 668 = .ok (.if_icmp .eq 5, 3) := by decide +kernel
theorem dL_law_671 : decode cL_law 671 = .ok (.iconst 0, 1) := by decide +kernel
theorem dL_law_672 : decode cL_law 672 = .ok (.ireturn, 1) := by decide +kernel
