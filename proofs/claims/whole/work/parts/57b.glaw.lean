/-! Word rows of the law's calls (2 of 4), as CHECK.md's command prints them. -/
set_option maxRecDepth 20000 in
theorem ggL_law_L_nameOf : GoodIn wsL_law wsL_nameOf := goodIn_ca (goodIn_r _ [301, 119, 302, 303, 304, 2, 305, 21, 306, 307, 308, 309, 128, 129, 661, 662, 663, 664, 665, 666, 667, 696, 697, 698, 699, 700, 701, 702, 703, 704, 705] (by decide +kernel) (by decide +kernel)) (goodIn_sub (fun _ h => List.mem_append_left _ (List.mem_append_left _ (List.mem_append_right _ h))) (by decide +kernel))
set_option maxRecDepth 20000 in
theorem gL_law_L_nameOf : GoodIn wsL_law (va_wsS RL 149 yL_nameOf wsL_nameOf) := goodIn_app (goodIn_of _ (by decide +kernel)) ggL_law_L_nameOf
set_option maxRecDepth 20000 in
theorem ggL_law_X4_nameOf : GoodIn wsL_law wsX4_nameOf := goodIn_r _ [313, 64, 314, 315, 316, 5, 317, 187, 104, 105, 106, 107, 108, 109, 110, 111, 668, 669, 670, 671, 672, 673, 674, 675, 676, 677, 678, 679, 680, 681, 682, 683, 684, 685, 686, 687, 688, 689, 690] (by decide +kernel) (by decide +kernel)
set_option maxRecDepth 20000 in
theorem gL_law_X4_nameOf : GoodIn wsL_law (wsV RL 151 RX4 yX4_nameOf wsX4_nameOf) := goodIn_app (goodIn_of _ (by decide +kernel)) ggL_law_X4_nameOf
set_option maxRecDepth 20000 in
theorem ggL_law_L_version : GoodIn wsL_law wsL_version := goodIn_ca (goodIn_r _ [320, 119, 321, 322, 323, 2, 324, 21, 306, 307, 308, 309, 128, 129, 661, 662, 663, 664, 665, 666, 667, 696, 697, 698, 699, 700, 701, 702, 703, 704, 705] (by decide +kernel) (by decide +kernel)) (goodIn_sub (fun _ h => List.mem_append_left _ (List.mem_append_left _ (List.mem_append_right _ h))) (by decide +kernel))
set_option maxRecDepth 20000 in
theorem gL_law_L_version : GoodIn wsL_law (va_wsS RL 152 yL_version wsL_version) := goodIn_app (goodIn_of _ (by decide +kernel)) ggL_law_L_version
set_option maxRecDepth 20000 in
theorem ggL_law_X4_version : GoodIn wsL_law wsX4_version := goodIn_r _ [328, 65, 314, 315, 316, 5, 317, 187, 104, 105, 106, 107, 108, 109, 110, 111, 668, 669, 670, 671, 672, 673, 674, 675, 676, 677, 678, 679, 680, 681, 682, 683, 684, 685, 686, 687, 688, 689, 690] (by decide +kernel) (by decide +kernel)
set_option maxRecDepth 20000 in
theorem gL_law_X4_version : GoodIn wsL_law (wsV RL 154 RX4 yX4_version wsX4_version) := goodIn_app (goodIn_of _ (by decide +kernel)) ggL_law_X4_version
set_option maxRecDepth 20000 in
theorem ggL_law_L_uses : GoodIn wsL_law wsL_uses := goodIn_ca (goodIn_r _ [331, 119, 332, 333, 334, 2, 335, 21, 306, 307, 308, 309, 128, 129, 130, 131, 132, 133, 134, 135, 661, 662, 663, 664, 665, 666, 667, 696, 697, 698, 699, 700, 701, 702, 703, 704, 705] (by decide +kernel) (by decide +kernel)) (goodIn_sub (fun _ h => List.mem_append_left _ (List.mem_append_left _ (List.mem_append_right _ h))) (by decide +kernel))
set_option maxRecDepth 20000 in
theorem gL_law_L_uses : GoodIn wsL_law (va_wsS RL 155 yL_uses wsL_uses) := goodIn_app (goodIn_of _ (by decide +kernel)) ggL_law_L_uses
set_option maxRecDepth 20000 in
theorem ggL_law_X4_uses : GoodIn wsL_law wsX4_uses := goodIn_r _ [339, 187, 66, 104, 105, 5, 106, 107, 108, 109, 110, 111, 668, 669, 670, 671, 672, 673, 674, 675, 676, 677, 678, 679, 680, 681, 682, 683, 684, 685, 686, 687, 688, 689, 690] (by decide +kernel) (by decide +kernel)
set_option maxRecDepth 20000 in
theorem gL_law_X4_uses : GoodIn wsL_law (wsV RL 157 RX4 yX4_uses wsX4_uses) := goodIn_app (goodIn_of _ (by decide +kernel)) ggL_law_X4_uses
set_option maxRecDepth 20000 in
theorem ggL_law_L_used : GoodIn wsL_law wsL_used := goodIn_ca (goodIn_r _ [342, 119, 343, 344, 345, 2, 346, 21, 306, 307, 308, 309, 128, 129, 164, 165, 166, 167, 168, 169, 170, 661, 662, 663, 664, 665, 666, 667, 696, 697, 698, 699, 700, 701, 702, 703, 704, 705] (by decide +kernel) (by decide +kernel)) (goodIn_sub (fun _ h => List.mem_append_left _ (List.mem_append_left _ (List.mem_append_right _ h))) (by decide +kernel))
set_option maxRecDepth 20000 in
theorem gL_law_L_used : GoodIn wsL_law (va_wsS RL 158 yL_used wsL_used) := goodIn_app (goodIn_of _ (by decide +kernel)) ggL_law_L_used
set_option maxRecDepth 20000 in
theorem ggL_law_X4_used : GoodIn wsL_law wsX4_used := goodIn_r _ [350, 66, 314, 315, 316, 5, 317, 187, 104, 105, 106, 107, 108, 109, 110, 111, 205, 206, 207, 668, 669, 670, 671, 672, 673, 674, 675, 676, 677, 678, 679, 680, 681, 682, 683, 684, 685, 686, 687, 688, 689, 690] (by decide +kernel) (by decide +kernel)
set_option maxRecDepth 20000 in
theorem gL_law_X4_used : GoodIn wsL_law (wsV RL 160 RX4 yX4_used wsX4_used) := goodIn_app (goodIn_of _ (by decide +kernel)) ggL_law_X4_used
set_option maxRecDepth 20000 in
theorem ggL_law_L_newest : GoodIn wsL_law wsL_newest := goodIn_ca (goodIn_ca (goodIn_r _ [353, 80, 354, 355, 356, 357, 2, 358, 21, 248, 249, 250, 251, 86, 87, 136, 137, 138, 139, 140, 141, 142, 143, 28, 144, 145, 146, 147, 148, 27, 130, 131, 132, 133, 134, 135, 272, 20, 273, 274, 275, 152, 42, 359, 360, 361, 40, 362, 363, 364, 365, 366, 661, 662, 663, 664, 665, 666, 667, 696, 697, 698, 699, 700, 701, 702, 703, 704, 705] (by decide +kernel) (by decide +kernel)) (goodIn_sub (fun _ h => List.mem_append_left _ (List.mem_append_left _ (List.mem_append_left _ (List.mem_append_left _ (List.mem_append_right _ h))))) (by decide +kernel))) (goodIn_sub (fun _ h => List.mem_append_right _ h) (by decide +kernel))
set_option maxRecDepth 20000 in
theorem gL_law_L_newest : GoodIn wsL_law (va_wsS RL 161 yL_newest wsL_newest) := goodIn_app (goodIn_of _ (by decide +kernel)) ggL_law_L_newest
set_option maxRecDepth 20000 in
theorem ggL_law_X4_newest : GoodIn wsL_law wsX4_newest := goodIn_r _ [370, 256, 257, 5, 258, 104, 105, 106, 107, 108, 109, 110, 111, 179, 180, 181, 182, 183, 184, 185, 186, 187, 188, 189, 190, 191, 58, 64, 192, 193, 194, 195, 196, 57, 197, 198, 199, 200, 103, 59, 68, 201, 202, 203, 204, 63, 102, 60, 61, 371, 372, 373, 374, 295, 296, 297, 298, 69, 66, 375, 376, 377, 378, 668, 669, 670, 671, 672, 673, 674, 675, 676, 677, 678, 679, 680, 681, 682, 683, 684, 685, 686, 687, 688, 689, 690] (by decide +kernel) (by decide +kernel)
set_option maxRecDepth 20000 in
theorem gL_law_X4_newest : GoodIn wsL_law (wsV RL 163 RX4 yX4_newest wsX4_newest) := goodIn_app (goodIn_of _ (by decide +kernel)) ggL_law_X4_newest
set_option maxRecDepth 20000 in
theorem ggL_law_L_attest : GoodIn wsL_law wsL_attest := goodIn_ca (goodIn_ca (goodIn_ca (goodIn_r _ [381, 119, 81, 262, 382, 383, 384, 2, 385, 88, 89, 267, 268, 17, 30, 21, 306, 307, 308, 309, 128, 129, 124, 125, 126, 127, 157, 16, 158, 159, 35, 36, 160, 131, 132, 133, 134, 135, 130, 272, 20, 273, 274, 275, 152, 42, 164, 165, 166, 167, 168, 169, 170, 661, 662, 663, 664, 665, 666, 667, 696, 697, 698, 699, 700, 701, 702, 703, 704, 705, 691, 692, 693, 694, 695] (by decide +kernel) (by decide +kernel)) (goodIn_sub (fun _ h => List.mem_append_left _ (List.mem_append_left _ (List.mem_append_left _ (List.mem_append_right _ h)))) (by decide +kernel))) (goodIn_sub (fun _ h => List.mem_append_left _ (List.mem_append_right _ h)) (by decide +kernel))) (goodIn_sub (fun _ h => List.mem_append_left _ (List.mem_append_left _ (List.mem_append_right _ h))) (by decide +kernel))
set_option maxRecDepth 20000 in
theorem gL_law_L_attest : GoodIn wsL_law (va_wsS RL 164 yL_attest wsL_attest) := goodIn_app (goodIn_of _ (by decide +kernel)) ggL_law_L_attest
set_option maxRecDepth 20000 in
theorem ggL_law_X4_attest : GoodIn wsL_law wsX4_attest := goodIn_r _ [389, 187, 103, 68, 104, 105, 5, 106, 107, 108, 109, 110, 111, 201, 202, 203, 204, 63, 102, 60, 61, 295, 296, 297, 298, 69, 66, 205, 206, 207, 668, 669, 670, 671, 672, 673, 674, 675, 676, 677, 678, 679, 680, 681, 682, 683, 684, 685, 686, 687, 688, 689, 690] (by decide +kernel) (by decide +kernel)
set_option maxRecDepth 20000 in
theorem gL_law_X4_attest : GoodIn wsL_law (wsV RL 166 RX4 yX4_attest wsX4_attest) := goodIn_app (goodIn_of _ (by decide +kernel)) ggL_law_X4_attest
set_option maxRecDepth 20000 in
theorem ggL_law_L_vouches : GoodIn wsL_law wsL_vouches := goodIn_ca (goodIn_ca (goodIn_r _ [392, 119, 80, 393, 394, 395, 2, 396, 21, 306, 307, 308, 309, 128, 129, 90, 91, 92, 93, 86, 87, 130, 131, 132, 133, 134, 135, 661, 662, 663, 664, 665, 666, 667, 696, 697, 698, 699, 700, 701, 702, 703, 704, 705] (by decide +kernel) (by decide +kernel)) (goodIn_sub (fun _ h => List.mem_append_left _ (List.mem_append_left _ (List.mem_append_right _ h))) (by decide +kernel))) (goodIn_sub (fun _ h => List.mem_append_left _ (List.mem_append_left _ (List.mem_append_left _ (List.mem_append_left _ (List.mem_append_right _ h))))) (by decide +kernel))
set_option maxRecDepth 20000 in
theorem gL_law_L_vouches : GoodIn wsL_law (va_wsS RL 167 yL_vouches wsL_vouches) := goodIn_app (goodIn_of _ (by decide +kernel)) ggL_law_L_vouches
set_option maxRecDepth 20000 in
theorem ggL_law_X4_vouches : GoodIn wsL_law wsX4_vouches := goodIn_r _ [400, 401, 402, 403, 5, 404, 314, 315, 316, 317, 187, 104, 105, 106, 107, 108, 109, 110, 111, 197, 198, 199, 200, 103, 59, 68, 201, 202, 203, 204, 63, 102, 60, 61, 668, 669, 670, 671, 672, 673, 674, 675, 676, 677, 678, 679, 680, 681, 682, 683, 684, 685, 686, 687, 688, 689, 690] (by decide +kernel) (by decide +kernel)
set_option maxRecDepth 20000 in
theorem gL_law_X4_vouches : GoodIn wsL_law (wsV RL 169 RX4 yX4_vouches wsX4_vouches) := goodIn_app (goodIn_of _ (by decide +kernel)) ggL_law_X4_vouches
set_option maxRecDepth 20000 in
theorem ggL_law_L_vouchesByList : GoodIn wsL_law wsL_vouchesByList := goodIn_ca (goodIn_ca (goodIn_r _ [407, 119, 80, 408, 409, 410, 2, 411, 17, 21, 30, 306, 307, 308, 309, 128, 129, 90, 91, 92, 93, 86, 87, 153, 16, 154, 155, 97, 156, 157, 158, 159, 35, 36, 160, 131, 132, 133, 134, 135, 161, 162, 163, 34, 130, 661, 662, 663, 664, 665, 666, 667, 696, 697, 698, 699, 700, 701, 702, 703, 704, 705, 691, 692, 693, 694, 695] (by decide +kernel) (by decide +kernel)) (goodIn_sub (fun _ h => List.mem_append_left _ (List.mem_append_left _ (List.mem_append_right _ h))) (by decide +kernel))) (goodIn_sub (fun _ h => List.mem_append_left _ (List.mem_append_left _ (List.mem_append_left _ (List.mem_append_left _ (List.mem_append_right _ h))))) (by decide +kernel))
set_option maxRecDepth 20000 in
theorem gL_law_L_vouchesByList : GoodIn wsL_law (va_wsS RL 170 yL_vouchesByList wsL_vouchesByList) := goodIn_app (goodIn_of _ (by decide +kernel)) ggL_law_L_vouchesByList
set_option maxRecDepth 20000 in
theorem ggL_law_X4_vouchesByList : GoodIn wsL_law wsX4_vouchesByList := goodIn_r _ [415, 401, 402, 403, 5, 404, 314, 315, 316, 317, 187, 104, 105, 106, 107, 108, 109, 110, 111, 197, 198, 199, 200, 103, 59, 68, 201, 202, 203, 204, 63, 102, 60, 61, 668, 669, 670, 671, 672, 673, 674, 675, 676, 677, 678, 679, 680, 681, 682, 683, 684, 685, 686, 687, 688, 689, 690] (by decide +kernel) (by decide +kernel)
set_option maxRecDepth 20000 in
theorem gL_law_X4_vouchesByList : GoodIn wsL_law (wsV RL 172 RX4 yX4_vouchesByList wsX4_vouchesByList) := goodIn_app (goodIn_of _ (by decide +kernel)) ggL_law_X4_vouchesByList
set_option maxRecDepth 20000 in
theorem ggL_law_L_score : GoodIn wsL_law wsL_score := goodIn_ca (goodIn_r _ [418, 119, 419, 420, 421, 2, 422, 21, 306, 307, 308, 309, 128, 129, 145, 146, 147, 148, 27, 144, 130, 131, 132, 133, 134, 135, 661, 662, 663, 664, 665, 666, 667, 696, 697, 698, 699, 700, 701, 702, 703, 704, 705] (by decide +kernel) (by decide +kernel)) (goodIn_sub (fun _ h => List.mem_append_left _ (List.mem_append_left _ (List.mem_append_right _ h))) (by decide +kernel))
set_option maxRecDepth 20000 in
theorem gL_law_L_score : GoodIn wsL_law (va_wsS RL 173 yL_score wsL_score) := goodIn_app (goodIn_of _ (by decide +kernel)) ggL_law_L_score
