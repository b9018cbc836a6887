/-! Word rows of the law's calls (3 of 4), as CHECK.md's command prints them. -/
set_option maxRecDepth 20000 in
theorem ggL_law_X4_score : GoodIn wsL_law wsX4_score := goodIn_r _ [426, 314, 315, 316, 5, 317, 187, 104, 105, 106, 107, 108, 109, 110, 111, 193, 194, 195, 196, 57, 192, 197, 198, 199, 200, 103, 59, 68, 201, 202, 203, 204, 63, 102, 60, 61, 668, 669, 670, 671, 672, 673, 674, 675, 676, 677, 678, 679, 680, 681, 682, 683, 684, 685, 686, 687, 688, 689, 690] (by decide +kernel) (by decide +kernel)
set_option maxRecDepth 20000 in
theorem gL_law_X4_score : GoodIn wsL_law (wsV RL 176 RX4 yX4_score wsX4_score) := goodIn_app (goodIn_of _ (by decide +kernel)) ggL_law_X4_score
set_option maxRecDepth 20000 in
theorem ggL_law_L_scoreBits : GoodIn wsL_law wsL_scoreBits := goodIn_ca (goodIn_r _ [429, 119, 430, 431, 432, 2, 433, 21, 306, 307, 308, 309, 128, 129, 145, 146, 147, 148, 27, 144, 130, 131, 132, 133, 134, 135, 434, 435, 436, 437, 438, 439, 440, 441, 442, 443, 444, 661, 662, 663, 664, 665, 666, 667, 696, 697, 698, 699, 700, 701, 702, 703, 704, 705] (by decide +kernel) (by decide +kernel)) (goodIn_sub (fun _ h => List.mem_append_left _ (List.mem_append_left _ (List.mem_append_right _ h))) (by decide +kernel))
set_option maxRecDepth 20000 in
theorem gL_law_L_scoreBits : GoodIn wsL_law (va_wsS RL 177 yL_scoreBits wsL_scoreBits) := goodIn_app (goodIn_of _ (by decide +kernel)) ggL_law_L_scoreBits
set_option maxRecDepth 20000 in
theorem ggL_law_X4_scoreBits : GoodIn wsL_law wsX4_scoreBits := goodIn_r _ [448, 314, 315, 316, 5, 317, 187, 104, 105, 106, 107, 108, 109, 110, 111, 193, 194, 195, 196, 57, 192, 197, 198, 199, 200, 103, 59, 68, 201, 202, 203, 204, 63, 102, 60, 61, 449, 450, 451, 452, 453, 454, 455, 456, 457, 458, 459, 460, 668, 669, 670, 671, 672, 673, 674, 675, 676, 677, 678, 679, 680, 681, 682, 683, 684, 685, 686, 687, 688, 689, 690] (by decide +kernel) (by decide +kernel)
set_option maxRecDepth 20000 in
theorem gL_law_X4_scoreBits : GoodIn wsL_law (wsV RL 179 RX4 yX4_scoreBits wsX4_scoreBits) := goodIn_app (goodIn_of _ (by decide +kernel)) ggL_law_X4_scoreBits
set_option maxRecDepth 20000 in
theorem ggL_law_L_isTrusted : GoodIn wsL_law wsL_isTrusted := goodIn_ca (goodIn_r _ [463, 119, 464, 465, 466, 2, 467, 21, 306, 307, 308, 309, 128, 129, 140, 141, 142, 143, 28, 144, 145, 146, 147, 148, 27, 130, 131, 132, 133, 134, 135, 661, 662, 663, 664, 665, 666, 667, 696, 697, 698, 699, 700, 701, 702, 703, 704, 705] (by decide +kernel) (by decide +kernel)) (goodIn_sub (fun _ h => List.mem_append_left _ (List.mem_append_left _ (List.mem_append_right _ h))) (by decide +kernel))
set_option maxRecDepth 20000 in
theorem gL_law_L_isTrusted : GoodIn wsL_law (va_wsS RL 180 yL_isTrusted wsL_isTrusted) := goodIn_app (goodIn_of _ (by decide +kernel)) ggL_law_L_isTrusted
set_option maxRecDepth 20000 in
theorem ggL_law_X4_isTrusted : GoodIn wsL_law wsX4_isTrusted := goodIn_r _ [471, 314, 315, 316, 5, 317, 187, 104, 105, 106, 107, 108, 109, 110, 111, 188, 189, 190, 191, 58, 64, 192, 193, 194, 195, 196, 57, 197, 198, 199, 200, 103, 59, 68, 201, 202, 203, 204, 63, 102, 60, 61, 668, 669, 670, 671, 672, 673, 674, 675, 676, 677, 678, 679, 680, 681, 682, 683, 684, 685, 686, 687, 688, 689, 690] (by decide +kernel) (by decide +kernel)
set_option maxRecDepth 20000 in
theorem gL_law_X4_isTrusted : GoodIn wsL_law (wsV RL 182 RX4 yX4_isTrusted wsX4_isTrusted) := goodIn_app (goodIn_of _ (by decide +kernel)) ggL_law_X4_isTrusted
set_option maxRecDepth 20000 in
theorem ggL_law_L_hangsOnKey : GoodIn wsL_law wsL_hangsOnKey := goodIn_ca (goodIn_r _ [474, 119, 475, 476, 477, 2, 478, 17, 30, 21, 124, 125, 126, 127, 128, 129, 153, 16, 154, 155, 97, 156, 157, 158, 159, 35, 36, 160, 131, 132, 133, 134, 135, 161, 162, 163, 34, 140, 141, 142, 143, 28, 144, 145, 146, 147, 148, 27, 130, 661, 662, 663, 664, 665, 666, 667, 696, 697, 698, 699, 700, 701, 702, 703, 704, 705, 691, 692, 693, 694, 695] (by decide +kernel) (by decide +kernel)) (goodIn_sub (fun _ h => List.mem_append_left _ (List.mem_append_left _ (List.mem_append_right _ h))) (by decide +kernel))
set_option maxRecDepth 20000 in
theorem gL_law_L_hangsOnKey : GoodIn wsL_law (va_wsS RL 183 yL_hangsOnKey wsL_hangsOnKey) := goodIn_app (goodIn_of _ (by decide +kernel)) ggL_law_L_hangsOnKey
set_option maxRecDepth 20000 in
theorem ggL_law_X4_hangsOnKey : GoodIn wsL_law wsX4_hangsOnKey := goodIn_r _ [482, 175, 176, 177, 5, 178, 103, 104, 105, 106, 107, 108, 109, 110, 111, 179, 180, 181, 182, 183, 184, 185, 186, 187, 188, 189, 190, 191, 58, 64, 192, 193, 194, 195, 196, 57, 197, 198, 199, 200, 59, 68, 201, 202, 203, 204, 63, 102, 60, 61, 205, 206, 207, 668, 669, 670, 671, 672, 673, 674, 675, 676, 677, 678, 679, 680, 681, 682, 683, 684, 685, 686, 687, 688, 689, 690] (by decide +kernel) (by decide +kernel)
set_option maxRecDepth 20000 in
theorem gL_law_X4_hangsOnKey : GoodIn wsL_law (wsV RL 185 RX4 yX4_hangsOnKey wsX4_hangsOnKey) := goodIn_app (goodIn_of _ (by decide +kernel)) ggL_law_X4_hangsOnKey
set_option maxRecDepth 20000 in
theorem ggL_law_L_recall : GoodIn wsL_law wsL_recall := goodIn_ca (goodIn_ca (goodIn_r _ [485, 119, 81, 486, 487, 488, 2, 489, 88, 89, 21, 306, 307, 308, 309, 128, 129, 130, 131, 132, 133, 134, 135, 272, 20, 273, 274, 275, 152, 42, 164, 165, 166, 167, 168, 169, 170, 661, 662, 663, 664, 665, 666, 667, 696, 697, 698, 699, 700, 701, 702, 703, 704, 705] (by decide +kernel) (by decide +kernel)) (goodIn_sub (fun _ h => List.mem_append_left _ (List.mem_append_left _ (List.mem_append_left _ (List.mem_append_right _ h)))) (by decide +kernel))) (goodIn_sub (fun _ h => List.mem_append_left _ (List.mem_append_left _ (List.mem_append_right _ h))) (by decide +kernel))
set_option maxRecDepth 20000 in
theorem gL_law_L_recall : GoodIn wsL_law (va_wsS RL 186 yL_recall wsL_recall) := goodIn_app (goodIn_of _ (by decide +kernel)) ggL_law_L_recall
set_option maxRecDepth 20000 in
theorem ggL_law_X4_recall : GoodIn wsL_law wsX4_recall := goodIn_r _ [493, 494, 495, 496, 5, 497, 69, 314, 315, 316, 317, 187, 104, 105, 106, 107, 108, 109, 110, 111, 371, 372, 373, 374, 295, 296, 297, 298, 66, 205, 206, 207, 668, 669, 670, 671, 672, 673, 674, 675, 676, 677, 678, 679, 680, 681, 682, 683, 684, 685, 686, 687, 688, 689, 690] (by decide +kernel) (by decide +kernel)
set_option maxRecDepth 20000 in
theorem gL_law_X4_recall : GoodIn wsL_law (wsV RL 188 RX4 yX4_recall wsX4_recall) := goodIn_app (goodIn_of _ (by decide +kernel)) ggL_law_X4_recall
set_option maxRecDepth 20000 in
theorem ggL_law_L_lift : GoodIn wsL_law wsL_lift := goodIn_ca (goodIn_ca (goodIn_r _ [500, 119, 81, 501, 502, 503, 2, 504, 88, 89, 21, 306, 307, 308, 309, 128, 129, 130, 131, 132, 133, 134, 135, 272, 20, 273, 274, 275, 152, 42, 164, 165, 166, 167, 168, 169, 170, 661, 662, 663, 664, 665, 666, 667, 696, 697, 698, 699, 700, 701, 702, 703, 704, 705] (by decide +kernel) (by decide +kernel)) (goodIn_sub (fun _ h => List.mem_append_left _ (List.mem_append_left _ (List.mem_append_left _ (List.mem_append_right _ h)))) (by decide +kernel))) (goodIn_sub (fun _ h => List.mem_append_left _ (List.mem_append_left _ (List.mem_append_right _ h))) (by decide +kernel))
set_option maxRecDepth 20000 in
theorem gL_law_L_lift : GoodIn wsL_law (va_wsS RL 189 yL_lift wsL_lift) := goodIn_app (goodIn_of _ (by decide +kernel)) ggL_law_L_lift
set_option maxRecDepth 20000 in
theorem ggL_law_X4_lift : GoodIn wsL_law wsX4_lift := goodIn_r _ [508, 494, 495, 496, 5, 497, 69, 314, 315, 316, 317, 187, 104, 105, 106, 107, 108, 109, 110, 111, 371, 372, 373, 374, 295, 296, 297, 298, 66, 205, 206, 207, 668, 669, 670, 671, 672, 673, 674, 675, 676, 677, 678, 679, 680, 681, 682, 683, 684, 685, 686, 687, 688, 689, 690] (by decide +kernel) (by decide +kernel)
set_option maxRecDepth 20000 in
theorem gL_law_X4_lift : GoodIn wsL_law (wsV RL 191 RX4 yX4_lift wsX4_lift) := goodIn_app (goodIn_of _ (by decide +kernel)) ggL_law_X4_lift
set_option maxRecDepth 20000 in
theorem ggL_law_L_isRecalled : GoodIn wsL_law wsL_isRecalled := goodIn_ca (goodIn_r _ [511, 119, 512, 513, 514, 2, 515, 21, 306, 307, 308, 309, 128, 129, 272, 20, 273, 274, 275, 152, 42, 134, 135, 130, 131, 132, 133, 661, 662, 663, 664, 665, 666, 667, 696, 697, 698, 699, 700, 701, 702, 703, 704, 705] (by decide +kernel) (by decide +kernel)) (goodIn_sub (fun _ h => List.mem_append_left _ (List.mem_append_left _ (List.mem_append_right _ h))) (by decide +kernel))
set_option maxRecDepth 20000 in
theorem gL_law_L_isRecalled : GoodIn wsL_law (va_wsS RL 192 yL_isRecalled wsL_isRecalled) := goodIn_app (goodIn_of _ (by decide +kernel)) ggL_law_L_isRecalled
set_option maxRecDepth 20000 in
theorem ggL_law_X4_isRecalled : GoodIn wsL_law wsX4_isRecalled := goodIn_r _ [519, 314, 315, 316, 5, 317, 187, 104, 105, 106, 107, 108, 109, 110, 111, 295, 296, 297, 298, 69, 66, 668, 669, 670, 671, 672, 673, 674, 675, 676, 677, 678, 679, 680, 681, 682, 683, 684, 685, 686, 687, 688, 689, 690] (by decide +kernel) (by decide +kernel)
set_option maxRecDepth 20000 in
theorem gL_law_X4_isRecalled : GoodIn wsL_law (wsV RL 194 RX4 yX4_isRecalled wsX4_isRecalled) := goodIn_app (goodIn_of _ (by decide +kernel)) ggL_law_X4_isRecalled
set_option maxRecDepth 20000 in
theorem ggL_law_L_rebuild : GoodIn wsL_law wsL_rebuild := goodIn_ca (goodIn_ca (goodIn_r _ [522, 119, 81, 523, 524, 525, 2, 526, 88, 89, 21, 306, 307, 308, 309, 128, 129, 661, 662, 663, 664, 665, 666, 667, 696, 697, 698, 699, 700, 701, 702, 703, 704, 705] (by decide +kernel) (by decide +kernel)) (goodIn_sub (fun _ h => List.mem_append_left _ (List.mem_append_left _ (List.mem_append_left _ (List.mem_append_right _ h)))) (by decide +kernel))) (goodIn_sub (fun _ h => List.mem_append_left _ (List.mem_append_left _ (List.mem_append_right _ h))) (by decide +kernel))
set_option maxRecDepth 20000 in
theorem gL_law_L_rebuild : GoodIn wsL_law (va_wsS RL 195 yL_rebuild wsL_rebuild) := goodIn_app (goodIn_of _ (by decide +kernel)) ggL_law_L_rebuild
set_option maxRecDepth 20000 in
theorem ggL_law_X4_rebuild : GoodIn wsL_law wsX4_rebuild := goodIn_r _ [530, 70, 71, 67, 314, 315, 316, 5, 317, 187, 104, 105, 106, 107, 108, 109, 110, 111, 668, 669, 670, 671, 672, 673, 674, 675, 676, 677, 678, 679, 680, 681, 682, 683, 684, 685, 686, 687, 688, 689, 690] (by decide +kernel) (by decide +kernel)
set_option maxRecDepth 20000 in
theorem gL_law_X4_rebuild : GoodIn wsL_law (wsV RL 197 RX4 yX4_rebuild wsX4_rebuild) := goodIn_app (goodIn_of _ (by decide +kernel)) ggL_law_X4_rebuild
set_option maxRecDepth 20000 in
theorem ggL_law_L_share : GoodIn wsL_law wsL_share := goodIn_ca (goodIn_ca (goodIn_r _ [533, 119, 354, 534, 535, 536, 2, 537, 365, 366, 21, 306, 307, 308, 309, 128, 129, 661, 662, 663, 664, 665, 666, 667, 696, 697, 698, 699, 700, 701, 702, 703, 704, 705] (by decide +kernel) (by decide +kernel)) (goodIn_sub (fun _ h => List.mem_append_right _ h) (by decide +kernel))) (goodIn_sub (fun _ h => List.mem_append_left _ (List.mem_append_left _ (List.mem_append_right _ h))) (by decide +kernel))
set_option maxRecDepth 20000 in
theorem gL_law_L_share : GoodIn wsL_law (va_wsS RL 198 yL_share wsL_share) := goodIn_app (goodIn_of _ (by decide +kernel)) ggL_law_L_share
set_option maxRecDepth 20000 in
theorem ggL_law_X4_share : GoodIn wsL_law wsX4_share := goodIn_r _ [541, 70, 71, 314, 315, 316, 5, 317, 187, 104, 105, 106, 107, 108, 109, 110, 111, 668, 669, 670, 671, 672, 673, 674, 675, 676, 677, 678, 679, 680, 681, 682, 683, 684, 685, 686, 687, 688, 689, 690] (by decide +kernel) (by decide +kernel)
set_option maxRecDepth 20000 in
theorem gL_law_X4_share : GoodIn wsL_law (wsV RL 200 RX4 yX4_share wsX4_share) := goodIn_app (goodIn_of _ (by decide +kernel)) ggL_law_X4_share
