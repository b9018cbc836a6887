/-! Word rows of the law's calls (1 of 4), as CHECK.md's command prints them. -/
set_option maxRecDepth 20000 in
theorem ggL_law_X3_init : GoodIn wsL_law wsX3_init := goodIn_r _ [10, 11, 12, 13, 14, 15, 16, 17, 18, 19, 20, 21, 22, 23, 24, 25, 26, 27, 28, 29, 30, 31, 32, 33, 34, 35, 36, 37, 38, 39, 40, 41, 42, 43, 44, 45, 46, 47, 48, 49, 50, 51, 52, 691, 692, 693, 694, 695, 661, 662, 663, 664, 665, 666, 667, 696, 697, 698, 699, 700, 701, 702, 703, 704, 705, 706, 707, 708] (by decide +kernel) (by decide +kernel)
set_option maxRecDepth 20000 in
theorem gL_law_X3_init : GoodIn wsL_law (wsX3_init) := ggL_law_X3_init
set_option maxRecDepth 20000 in
theorem ggL_law_X4_init : GoodIn wsL_law wsX4_init := goodIn_r _ [55, 56, 12, 13, 26, 57, 58, 59, 60, 61, 62, 63, 64, 65, 66, 67, 68, 69, 70, 71, 72, 73, 74, 75, 668, 669, 670, 671, 672, 673, 674, 675, 676, 677, 678, 679, 680, 681, 682, 683, 684, 685, 686, 687, 688, 689, 690] (by decide +kernel) (by decide +kernel)
set_option maxRecDepth 20000 in
theorem gL_law_X4_init : GoodIn wsL_law (wsX4_init) := ggL_law_X4_init
set_option maxRecDepth 20000 in
theorem ggL_law_L_addKey : GoodIn wsL_law wsL_addKey := goodIn_ca (goodIn_ca (goodIn_r _ [79, 80, 81, 82, 83, 84, 2, 85, 86, 87, 88, 89, 30, 17, 90, 91, 92, 93, 94, 16, 95, 96, 97, 34, 35, 36, 661, 662, 663, 664, 665, 666, 667, 691, 692, 693, 694, 695] (by decide +kernel) (by decide +kernel)) (goodIn_sub (fun _ h => List.mem_append_left _ (List.mem_append_left _ (List.mem_append_left _ (List.mem_append_left _ (List.mem_append_right _ h))))) (by decide +kernel))) (goodIn_sub (fun _ h => List.mem_append_left _ (List.mem_append_left _ (List.mem_append_left _ (List.mem_append_right _ h)))) (by decide +kernel))
set_option maxRecDepth 20000 in
theorem gL_law_L_addKey : GoodIn wsL_law (va_wsS RL 120 yL_addKey wsL_addKey) := goodIn_app (goodIn_of _ (by decide +kernel)) ggL_law_L_addKey
set_option maxRecDepth 20000 in
theorem ggL_law_X4_addKey : GoodIn wsL_law wsX4_addKey := goodIn_r _ [101, 102, 103, 59, 60, 61, 104, 105, 5, 106, 107, 108, 109, 110, 111, 668, 669, 670, 671, 672, 673, 674, 675, 676, 677, 678, 679, 680, 681, 682, 683, 684, 685, 686, 687, 688, 689, 690] (by decide +kernel) (by decide +kernel)
set_option maxRecDepth 20000 in
theorem gL_law_X4_addKey : GoodIn wsL_law (wsV RL 125 RX4 yX4_addKey wsX4_addKey) := goodIn_app (goodIn_of _ (by decide +kernel)) ggL_law_X4_addKey
set_option maxRecDepth 20000 in
theorem ggL_law_X4_thrown : GoodIn wsL_law wsX4_thrown := goodIn_r _ [115, 111, 668, 669, 670, 671, 672, 673, 674, 675, 676, 677, 678, 679, 680, 681, 682, 683, 684, 685, 686, 687, 688, 689, 690] (by decide +kernel) (by decide +kernel)
set_option maxRecDepth 20000 in
theorem gL_law_X4_thrown : GoodIn wsL_law (wsV RL 126 RX4 yX4_thrown wsX4_thrown) := goodIn_app (goodIn_of _ (by decide +kernel)) ggL_law_X4_thrown
set_option maxRecDepth 20000 in
theorem ggL_law_L_loseKey : GoodIn wsL_law wsL_loseKey := goodIn_ca (goodIn_ca (goodIn_r _ [118, 119, 81, 120, 121, 122, 2, 123, 88, 89, 17, 21, 30, 124, 125, 126, 127, 128, 129, 130, 131, 132, 133, 134, 135, 136, 137, 138, 139, 140, 141, 142, 143, 28, 144, 145, 146, 147, 148, 27, 149, 20, 150, 151, 152, 45, 44, 153, 16, 154, 155, 97, 156, 157, 158, 159, 35, 36, 160, 161, 162, 163, 34, 164, 165, 166, 167, 168, 169, 170, 661, 662, 663, 664, 665, 666, 667, 691, 692, 693, 694, 695, 696, 697, 698, 699, 700, 701, 702, 703, 704, 705] (by decide +kernel) (by decide +kernel)) (goodIn_sub (fun _ h => List.mem_append_left _ (List.mem_append_left _ (List.mem_append_left _ (List.mem_append_right _ h)))) (by decide +kernel))) (goodIn_sub (fun _ h => List.mem_append_left _ (List.mem_append_left _ (List.mem_append_right _ h))) (by decide +kernel))
set_option maxRecDepth 20000 in
theorem gL_law_L_loseKey : GoodIn wsL_law (va_wsS RL 129 yL_loseKey wsL_loseKey) := goodIn_app (goodIn_of _ (by decide +kernel)) ggL_law_L_loseKey
set_option maxRecDepth 20000 in
theorem ggL_law_X4_loseKey : GoodIn wsL_law wsX4_loseKey := goodIn_r _ [174, 63, 175, 176, 177, 5, 178, 103, 104, 105, 106, 107, 108, 109, 110, 111, 179, 180, 181, 182, 183, 184, 185, 186, 187, 188, 189, 190, 191, 58, 64, 192, 193, 194, 195, 196, 57, 197, 198, 199, 200, 59, 68, 201, 202, 203, 204, 102, 60, 61, 205, 206, 207, 668, 669, 670, 671, 672, 673, 674, 675, 676, 677, 678, 679, 680, 681, 682, 683, 684, 685, 686, 687, 688, 689, 690] (by decide +kernel) (by decide +kernel)
set_option maxRecDepth 20000 in
theorem gL_law_X4_loseKey : GoodIn wsL_law (wsV RL 132 RX4 yX4_loseKey wsX4_loseKey) := goodIn_app (goodIn_of _ (by decide +kernel)) ggL_law_X4_loseKey
set_option maxRecDepth 20000 in
theorem ggL_law_L_extendKey : GoodIn wsL_law wsL_extendKey := goodIn_ca (goodIn_ca (goodIn_ca (goodIn_r _ [210, 119, 80, 81, 211, 212, 213, 2, 214, 86, 87, 88, 89, 17, 30, 124, 125, 126, 127, 128, 129, 130, 131, 132, 133, 134, 135, 661, 662, 663, 664, 665, 666, 667, 691, 692, 693, 694, 695] (by decide +kernel) (by decide +kernel)) (goodIn_sub (fun _ h => List.mem_append_left _ (List.mem_append_left _ (List.mem_append_left _ (List.mem_append_left _ (List.mem_append_right _ h))))) (by decide +kernel))) (goodIn_sub (fun _ h => List.mem_append_left _ (List.mem_append_left _ (List.mem_append_left _ (List.mem_append_right _ h)))) (by decide +kernel))) (goodIn_sub (fun _ h => List.mem_append_left _ (List.mem_append_left _ (List.mem_append_right _ h))) (by decide +kernel))
set_option maxRecDepth 20000 in
theorem gL_law_L_extendKey : GoodIn wsL_law (va_wsS RL 133 yL_extendKey wsL_extendKey) := goodIn_app (goodIn_of _ (by decide +kernel)) ggL_law_L_extendKey
set_option maxRecDepth 20000 in
theorem ggL_law_X4_extendKey : GoodIn wsL_law wsX4_extendKey := goodIn_r _ [218, 61, 63, 102, 175, 176, 177, 5, 178, 103, 104, 105, 106, 107, 108, 109, 110, 111, 668, 669, 670, 671, 672, 673, 674, 675, 676, 677, 678, 679, 680, 681, 682, 683, 684, 685, 686, 687, 688, 689, 690] (by decide +kernel) (by decide +kernel)
set_option maxRecDepth 20000 in
theorem gL_law_X4_extendKey : GoodIn wsL_law (wsV RL 136 RX4 yX4_extendKey wsX4_extendKey) := goodIn_app (goodIn_of _ (by decide +kernel)) ggL_law_X4_extendKey
set_option maxRecDepth 20000 in
theorem ggL_law_L_isLive : GoodIn wsL_law wsL_isLive := goodIn_ca (goodIn_r _ [221, 119, 222, 223, 224, 2, 225, 17, 30, 124, 125, 126, 127, 128, 129, 157, 16, 158, 159, 35, 36, 160, 131, 132, 133, 134, 135, 661, 662, 663, 664, 665, 666, 667, 691, 692, 693, 694, 695] (by decide +kernel) (by decide +kernel)) (goodIn_sub (fun _ h => List.mem_append_left _ (List.mem_append_left _ (List.mem_append_right _ h))) (by decide +kernel))
set_option maxRecDepth 20000 in
theorem gL_law_L_isLive : GoodIn wsL_law (va_wsS RL 137 yL_isLive wsL_isLive) := goodIn_app (goodIn_of _ (by decide +kernel)) ggL_law_L_isLive
set_option maxRecDepth 20000 in
theorem ggL_law_X4_isLive : GoodIn wsL_law wsX4_isLive := goodIn_r _ [229, 175, 176, 177, 5, 178, 103, 104, 105, 106, 107, 108, 109, 110, 111, 201, 202, 203, 204, 63, 102, 60, 61, 668, 669, 670, 671, 672, 673, 674, 675, 676, 677, 678, 679, 680, 681, 682, 683, 684, 685, 686, 687, 688, 689, 690] (by decide +kernel) (by decide +kernel)
set_option maxRecDepth 20000 in
theorem gL_law_X4_isLive : GoodIn wsL_law (wsV RL 139 RX4 yX4_isLive wsX4_isLive) := goodIn_app (goodIn_of _ (by decide +kernel)) ggL_law_X4_isLive
set_option maxRecDepth 20000 in
theorem ggL_law_L_setWeight : GoodIn wsL_law wsL_setWeight := goodIn_ca (goodIn_r _ [232, 80, 233, 234, 235, 2, 236, 86, 87, 27, 90, 91, 92, 93, 661, 662, 663, 664, 665, 666, 667] (by decide +kernel) (by decide +kernel)) (goodIn_sub (fun _ h => List.mem_append_left _ (List.mem_append_left _ (List.mem_append_left _ (List.mem_append_left _ (List.mem_append_right _ h))))) (by decide +kernel))
set_option maxRecDepth 20000 in
theorem gL_law_L_setWeight : GoodIn wsL_law (va_wsS RL 140 yL_setWeight wsL_setWeight) := goodIn_app (goodIn_of _ (by decide +kernel)) ggL_law_L_setWeight
set_option maxRecDepth 20000 in
theorem ggL_law_X4_setWeight : GoodIn wsL_law wsX4_setWeight := goodIn_r _ [240, 57, 104, 105, 5, 106, 107, 108, 109, 110, 111, 668, 669, 670, 671, 672, 673, 674, 675, 676, 677, 678, 679, 680, 681, 682, 683, 684, 685, 686, 687, 688, 689, 690] (by decide +kernel) (by decide +kernel)
set_option maxRecDepth 20000 in
theorem gL_law_X4_setWeight : GoodIn wsL_law (wsV RL 142 RX4 yX4_setWeight wsX4_setWeight) := goodIn_app (goodIn_of _ (by decide +kernel)) ggL_law_X4_setWeight
set_option maxRecDepth 20000 in
theorem ggL_law_L_setThreshold : GoodIn wsL_law wsL_setThreshold := goodIn_ca (goodIn_r _ [243, 80, 244, 245, 246, 2, 247, 86, 87, 28, 248, 249, 250, 251, 661, 662, 663, 664, 665, 666, 667] (by decide +kernel) (by decide +kernel)) (goodIn_sub (fun _ h => List.mem_append_left _ (List.mem_append_left _ (List.mem_append_left _ (List.mem_append_left _ (List.mem_append_right _ h))))) (by decide +kernel))
set_option maxRecDepth 20000 in
theorem gL_law_L_setThreshold : GoodIn wsL_law (va_wsS RL 143 yL_setThreshold wsL_setThreshold) := goodIn_app (goodIn_of _ (by decide +kernel)) ggL_law_L_setThreshold
set_option maxRecDepth 20000 in
theorem ggL_law_X4_setThreshold : GoodIn wsL_law wsX4_setThreshold := goodIn_r _ [255, 58, 256, 257, 5, 258, 104, 105, 106, 107, 108, 109, 110, 111, 668, 669, 670, 671, 672, 673, 674, 675, 676, 677, 678, 679, 680, 681, 682, 683, 684, 685, 686, 687, 688, 689, 690] (by decide +kernel) (by decide +kernel)
set_option maxRecDepth 20000 in
theorem gL_law_X4_setThreshold : GoodIn wsL_law (wsV RL 145 RX4 yX4_setThreshold wsX4_setThreshold) := goodIn_app (goodIn_of _ (by decide +kernel)) ggL_law_X4_setThreshold
set_option maxRecDepth 20000 in
theorem ggL_law_L_build : GoodIn wsL_law wsL_build := goodIn_ca (goodIn_ca (goodIn_ca (goodIn_r _ [261, 80, 262, 81, 263, 264, 265, 2, 266, 86, 87, 267, 268, 88, 89, 21, 248, 249, 250, 251, 269, 20, 270, 271, 152, 134, 135, 272, 273, 274, 275, 42, 276, 277, 278, 40, 41, 43, 279, 280, 281, 282, 283, 284, 285, 286, 131, 132, 133, 661, 662, 663, 664, 665, 666, 667, 696, 697, 698, 699, 700, 701, 702, 703, 704, 705] (by decide +kernel) (by decide +kernel)) (goodIn_sub (fun _ h => List.mem_append_left _ (List.mem_append_left _ (List.mem_append_left _ (List.mem_append_left _ (List.mem_append_right _ h))))) (by decide +kernel))) (goodIn_sub (fun _ h => List.mem_append_left _ (List.mem_append_right _ h)) (by decide +kernel))) (goodIn_sub (fun _ h => List.mem_append_left _ (List.mem_append_left _ (List.mem_append_left _ (List.mem_append_right _ h)))) (by decide +kernel))
set_option maxRecDepth 20000 in
theorem gL_law_L_build : GoodIn wsL_law (va_wsS RL 146 yL_build wsL_build) := goodIn_app (goodIn_of _ (by decide +kernel)) ggL_law_L_build
set_option maxRecDepth 20000 in
theorem ggL_law_X4_build : GoodIn wsL_law wsX4_build := goodIn_r _ [290, 187, 64, 65, 66, 67, 256, 257, 5, 258, 104, 105, 106, 291, 292, 293, 294, 295, 296, 297, 298, 69, 107, 108, 109, 110, 111, 668, 669, 670, 671, 672, 673, 674, 675, 676, 677, 678, 679, 680, 681, 682, 683, 684, 685, 686, 687, 688, 689, 690] (by decide +kernel) (by decide +kernel)
set_option maxRecDepth 20000 in
theorem gL_law_X4_build : GoodIn wsL_law (wsV RL 148 RX4 yX4_build wsX4_build) := goodIn_app (goodIn_of _ (by decide +kernel)) ggL_law_X4_build
