/-! Word rows of the law's calls (4 of 4), as CHECK.md's command prints them. -/
set_option maxRecDepth 20000 in
theorem ggL_law_L_addMirror : GoodIn wsL_law wsL_addMirror := goodIn_ca (goodIn_r _ [544, 81, 545, 546, 547, 2, 548, 88, 89, 25, 549, 24, 550, 551, 552, 51, 52, 661, 662, 663, 664, 665, 666, 667, 706, 707, 708] (by decide +kernel) (by decide +kernel)) (goodIn_sub (fun _ h => List.mem_append_left _ (List.mem_append_left _ (List.mem_append_left _ (List.mem_append_right _ h)))) (by decide +kernel))
set_option maxRecDepth 20000 in
theorem gL_law_L_addMirror : GoodIn wsL_law (va_wsS RL 201 yL_addMirror wsL_addMirror) := goodIn_app (goodIn_of _ (by decide +kernel)) ggL_law_L_addMirror
set_option maxRecDepth 20000 in
theorem ggL_law_X4_addMirror : GoodIn wsL_law wsX4_addMirror := goodIn_r _ [556, 557, 107, 108, 109, 5, 110, 111, 668, 669, 670, 671, 672, 673, 674, 675, 676, 677, 678, 679, 680, 681, 682, 683, 684, 685, 686, 687, 688, 689, 690] (by decide +kernel) (by decide +kernel)
set_option maxRecDepth 20000 in
theorem gL_law_X4_addMirror : GoodIn wsL_law (wsV RL 204 RX4 yX4_addMirror wsX4_addMirror) := goodIn_app (goodIn_of _ (by decide +kernel)) ggL_law_X4_addMirror
set_option maxRecDepth 20000 in
theorem ggL_law_L_update : GoodIn wsL_law wsL_update := goodIn_ca (goodIn_r _ [560, 119, 561, 562, 563, 2, 564, 25, 21, 30, 565, 566, 567, 568, 128, 129, 269, 20, 270, 271, 152, 134, 135, 272, 273, 274, 275, 42, 661, 662, 663, 664, 665, 666, 667, 706, 707, 708, 696, 697, 698, 699, 700, 701, 702, 703, 704, 705] (by decide +kernel) (by decide +kernel)) (goodIn_sub (fun _ h => List.mem_append_left _ (List.mem_append_left _ (List.mem_append_right _ h))) (by decide +kernel))
set_option maxRecDepth 20000 in
theorem gL_law_L_update : GoodIn wsL_law (va_wsS RL 205 yL_update wsL_update) := goodIn_app (goodIn_of _ (by decide +kernel)) ggL_law_L_update
set_option maxRecDepth 20000 in
theorem ggL_law_X4_update : GoodIn wsL_law wsX4_update := goodIn_r _ [572, 72, 187, 73, 74, 102, 573, 574, 575, 5, 576, 557, 104, 105, 106, 107, 108, 109, 110, 111, 371, 372, 373, 374, 295, 296, 297, 298, 69, 66, 668, 669, 670, 671, 672, 673, 674, 675, 676, 677, 678, 679, 680, 681, 682, 683, 684, 685, 686, 687, 688, 689, 690] (by decide +kernel) (by decide +kernel)
set_option maxRecDepth 20000 in
theorem gL_law_X4_update : GoodIn wsL_law (wsV RL 207 RX4 yX4_update wsX4_update) := goodIn_app (goodIn_of _ (by decide +kernel)) ggL_law_X4_update
set_option maxRecDepth 20000 in
theorem ggL_law_L_isExpired : GoodIn wsL_law wsL_isExpired := goodIn_ca (goodIn_r _ [579, 119, 580, 581, 582, 2, 583, 565, 566, 567, 568, 128, 129, 25, 584, 585, 586, 587, 30, 29, 661, 662, 663, 664, 665, 666, 667, 706, 707, 708] (by decide +kernel) (by decide +kernel)) (goodIn_sub (fun _ h => List.mem_append_left _ (List.mem_append_left _ (List.mem_append_right _ h))) (by decide +kernel))
set_option maxRecDepth 20000 in
theorem gL_law_L_isExpired : GoodIn wsL_law (va_wsS RL 208 yL_isExpired wsL_isExpired) := goodIn_app (goodIn_of _ (by decide +kernel)) ggL_law_L_isExpired
set_option maxRecDepth 20000 in
theorem ggL_law_X4_isExpired : GoodIn wsL_law wsX4_isExpired := goodIn_r _ [591, 573, 574, 575, 5, 576, 557, 104, 105, 106, 107, 108, 109, 110, 111, 592, 593, 594, 595, 74, 102, 75, 668, 669, 670, 671, 672, 673, 674, 675, 676, 677, 678, 679, 680, 681, 682, 683, 684, 685, 686, 687, 688, 689, 690] (by decide +kernel) (by decide +kernel)
set_option maxRecDepth 20000 in
theorem gL_law_X4_isExpired : GoodIn wsL_law (wsV RL 210 RX4 yX4_isExpired wsX4_isExpired) := goodIn_app (goodIn_of _ (by decide +kernel)) ggL_law_X4_isExpired
set_option maxRecDepth 20000 in
theorem ggL_law_L_setExpiry : GoodIn wsL_law wsL_setExpiry := goodIn_ca (goodIn_r _ [598, 80, 599, 600, 601, 2, 602, 86, 87, 29, 661, 662, 663, 664, 665, 666, 667] (by decide +kernel) (by decide +kernel)) (goodIn_sub (fun _ h => List.mem_append_left _ (List.mem_append_left _ (List.mem_append_left _ (List.mem_append_left _ (List.mem_append_right _ h))))) (by decide +kernel))
set_option maxRecDepth 20000 in
theorem gL_law_L_setExpiry : GoodIn wsL_law (va_wsS RL 211 yL_setExpiry wsL_setExpiry) := goodIn_app (goodIn_of _ (by decide +kernel)) ggL_law_L_setExpiry
set_option maxRecDepth 20000 in
theorem ggL_law_X4_setExpiry : GoodIn wsL_law wsX4_setExpiry := goodIn_r _ [606, 75, 104, 105, 5, 106, 107, 108, 109, 110, 111, 668, 669, 670, 671, 672, 673, 674, 675, 676, 677, 678, 679, 680, 681, 682, 683, 684, 685, 686, 687, 688, 689, 690] (by decide +kernel) (by decide +kernel)
set_option maxRecDepth 20000 in
theorem gL_law_X4_setExpiry : GoodIn wsL_law (wsV RL 213 RX4 yX4_setExpiry wsX4_setExpiry) := goodIn_app (goodIn_of _ (by decide +kernel)) ggL_law_X4_setExpiry
set_option maxRecDepth 20000 in
theorem ggL_law_L_install : GoodIn wsL_law wsL_install := goodIn_ca (goodIn_ca (goodIn_ca (goodIn_ca (goodIn_r _ [609, 119, 80, 262, 354, 610, 611, 612, 2, 613, 267, 268, 21, 25, 565, 566, 567, 568, 128, 129, 248, 249, 250, 251, 86, 87, 584, 585, 586, 587, 30, 29, 136, 137, 138, 139, 140, 141, 142, 143, 28, 144, 145, 146, 147, 148, 27, 130, 131, 132, 133, 134, 135, 359, 20, 360, 361, 152, 40, 362, 363, 364, 365, 366, 661, 662, 663, 664, 665, 666, 667, 706, 707, 708, 696, 697, 698, 699, 700, 701, 702, 703, 704, 705] (by decide +kernel) (by decide +kernel)) (goodIn_sub (fun _ h => List.mem_append_left _ (List.mem_append_right _ h)) (by decide +kernel))) (goodIn_sub (fun _ h => List.mem_append_left _ (List.mem_append_left _ (List.mem_append_right _ h))) (by decide +kernel))) (goodIn_sub (fun _ h => List.mem_append_left _ (List.mem_append_left _ (List.mem_append_left _ (List.mem_append_left _ (List.mem_append_right _ h))))) (by decide +kernel))) (goodIn_sub (fun _ h => List.mem_append_right _ h) (by decide +kernel))
set_option maxRecDepth 20000 in
theorem gL_law_L_install : GoodIn wsL_law (va_wsS RL 214 yL_install wsL_install) := goodIn_app (goodIn_of _ (by decide +kernel)) ggL_law_L_install
set_option maxRecDepth 20000 in
theorem ggL_law_X4_install : GoodIn wsL_law wsX4_install := goodIn_r _ [617, 72, 73, 573, 574, 575, 5, 576, 557, 104, 105, 106, 107, 108, 109, 110, 111, 256, 257, 258, 592, 593, 594, 595, 74, 102, 75, 179, 180, 181, 182, 183, 184, 185, 186, 187, 188, 189, 190, 191, 58, 64, 192, 193, 194, 195, 196, 57, 197, 198, 199, 200, 103, 59, 68, 201, 202, 203, 204, 63, 60, 61, 375, 376, 377, 378, 668, 669, 670, 671, 672, 673, 674, 675, 676, 677, 678, 679, 680, 681, 682, 683, 684, 685, 686, 687, 688, 689, 690] (by decide +kernel) (by decide +kernel)
set_option maxRecDepth 20000 in
theorem gL_law_X4_install : GoodIn wsL_law (wsV RL 216 RX4 yX4_install wsX4_install) := goodIn_app (goodIn_of _ (by decide +kernel)) ggL_law_X4_install
set_option maxRecDepth 20000 in
theorem ggL_law_L_pass : GoodIn wsL_law wsL_pass := goodIn_ca (goodIn_r _ [620, 80, 621, 622, 623, 2, 624, 86, 87, 30, 21, 17, 136, 137, 138, 139, 140, 141, 142, 143, 28, 144, 145, 146, 147, 148, 27, 130, 131, 132, 133, 134, 135, 149, 20, 150, 151, 152, 45, 44, 153, 16, 154, 155, 97, 156, 157, 158, 159, 35, 36, 160, 161, 162, 163, 34, 164, 165, 166, 167, 168, 169, 170, 661, 662, 663, 664, 665, 666, 667, 696, 697, 698, 699, 700, 701, 702, 703, 704, 705, 691, 692, 693, 694, 695] (by decide +kernel) (by decide +kernel)) (goodIn_sub (fun _ h => List.mem_append_left _ (List.mem_append_left _ (List.mem_append_left _ (List.mem_append_left _ (List.mem_append_right _ h))))) (by decide +kernel))
set_option maxRecDepth 20000 in
theorem gL_law_L_pass : GoodIn wsL_law (va_wsS RL 217 yL_pass wsL_pass) := goodIn_app (goodIn_of _ (by decide +kernel)) ggL_law_L_pass
set_option maxRecDepth 20000 in
theorem ggL_law_X4_pass : GoodIn wsL_law wsX4_pass := goodIn_r _ [628, 102, 104, 105, 5, 106, 107, 108, 109, 110, 111, 179, 180, 181, 182, 183, 184, 185, 186, 187, 188, 189, 190, 191, 58, 64, 192, 193, 194, 195, 196, 57, 197, 198, 199, 200, 103, 59, 68, 201, 202, 203, 204, 63, 60, 61, 205, 206, 207, 668, 669, 670, 671, 672, 673, 674, 675, 676, 677, 678, 679, 680, 681, 682, 683, 684, 685, 686, 687, 688, 689, 690] (by decide +kernel) (by decide +kernel)
set_option maxRecDepth 20000 in
theorem gL_law_X4_pass : GoodIn wsL_law (wsV RL 219 RX4 yX4_pass wsX4_pass) := goodIn_app (goodIn_of _ (by decide +kernel)) ggL_law_X4_pass
set_option maxRecDepth 20000 in
theorem ggL_law_X3_day : GoodIn wsL_law wsX3_day := goodIn_r _ [632, 30, 661, 662, 663, 664, 665, 666, 667] (by decide +kernel) (by decide +kernel)
set_option maxRecDepth 20000 in
theorem gL_law_X3_day : GoodIn wsL_law (wsV RL 220 RX3 yX3_day wsX3_day) := goodIn_app (goodIn_of _ (by decide +kernel)) ggL_law_X3_day
set_option maxRecDepth 20000 in
theorem ggL_law_X4_day : GoodIn wsL_law wsX4_day := goodIn_r _ [636, 102, 637, 638, 639, 5, 640, 111, 668, 669, 670, 671, 672, 673, 674, 675, 676, 677, 678, 679, 680, 681, 682, 683, 684, 685, 686, 687, 688, 689, 690] (by decide +kernel) (by decide +kernel)
set_option maxRecDepth 20000 in
theorem gL_law_X4_day : GoodIn wsL_law (wsV RL 223 RX4 yX4_day wsX4_day) := goodIn_app (goodIn_of _ (by decide +kernel)) ggL_law_X4_day
set_option maxRecDepth 20000 in
theorem ggL_law_X3_scoreSumBits : GoodIn wsL_law wsX3_scoreSumBits := goodIn_r _ [644, 21, 145, 146, 147, 2, 148, 27, 144, 130, 131, 132, 133, 134, 135, 438, 439, 440, 441, 442, 443, 444, 661, 662, 663, 664, 665, 666, 667, 696, 697, 698, 699, 700, 701, 702, 703, 704, 705] (by decide +kernel) (by decide +kernel)
set_option maxRecDepth 20000 in
theorem gL_law_X3_scoreSumBits : GoodIn wsL_law (wsV RL 224 RX3 yX3_scoreSumBits wsX3_scoreSumBits) := goodIn_app (goodIn_of _ (by decide +kernel)) ggL_law_X3_scoreSumBits
set_option maxRecDepth 20000 in
theorem ggL_law_X4_scoreSumBits : GoodIn wsL_law wsX4_scoreSumBits := goodIn_r _ [648, 111, 187, 193, 194, 195, 5, 196, 57, 192, 197, 198, 199, 200, 103, 59, 68, 201, 202, 203, 204, 63, 102, 60, 61, 104, 105, 106, 649, 650, 651, 652, 653, 654, 655, 656, 657, 658, 659, 660, 668, 669, 670, 671, 672, 673, 674, 675, 676, 677, 678, 679, 680, 681, 682, 683, 684, 685, 686, 687, 688, 689, 690] (by decide +kernel) (by decide +kernel)
set_option maxRecDepth 20000 in
theorem gL_law_X4_scoreSumBits : GoodIn wsL_law (wsV RL 228 RX4 yX4_scoreSumBits wsX4_scoreSumBits) := goodIn_app (goodIn_of _ (by decide +kernel)) ggL_law_X4_scoreSumBits
