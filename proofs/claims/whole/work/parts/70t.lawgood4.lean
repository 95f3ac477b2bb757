/-! the law's calls: words -/
set_option maxRecDepth 20000 in
theorem ggL_law_L_hole : GoodIn wsL_law wsL_hole := goodIn_ca (goodIn_ca (goodIn_r _ [596, 71, 72, 597, 598, 599, 2, 600, 78, 79, 16, 82, 83, 84, 85, 86, 87, 88, 89, 793, 794, 795, 796, 797, 798, 799, 800, 801, 814, 815, 816, 817, 818, 819, 820, 821, 822, 823] (by decide +kernel) (by decide +kernel)) (goodIn_sub (fun _ h => List.mem_append_left _ (List.mem_append_left _ (List.mem_append_right _ h))) (by decide +kernel))) (goodIn_sub (fun _ h => List.mem_append_right _ h) (by decide +kernel))
set_option maxRecDepth 20000 in
theorem gL_law_L_hole : GoodIn wsL_law (va_wsS RL 140 yL_hole wsL_hole) := goodIn_app (goodIn_of _ (by decide +kernel)) ggL_law_L_hole
set_option maxRecDepth 20000 in
theorem ggL_law_X4_hole : GoodIn wsL_law wsX4_hole := goodIn_r _ [604, 135, 136, 137, 5, 138, 139, 140, 141, 605, 606, 607, 608, 265, 266, 267, 268, 158, 159, 160, 161, 150, 151, 152, 153, 62, 154, 155, 156, 157, 162, 163, 164, 165, 802, 803, 804, 805, 806, 807, 808, 809, 810, 811, 812, 813] (by decide +kernel) (by decide +kernel)
set_option maxRecDepth 20000 in
theorem gL_law_X4_hole : GoodIn wsL_law (wsV RL 142 RX4 yX4_hole wsX4_hole) := goodIn_app (goodIn_of _ (by decide +kernel)) ggL_law_X4_hole
set_option maxRecDepth 20000 in
theorem ggL_law_L_count : GoodIn wsL_law wsL_count := goodIn_ca (goodIn_r _ [611, 72, 612, 613, 614, 2, 615, 78, 79, 21, 16, 616, 617, 618, 15, 619, 118, 119, 120, 121, 37, 36, 94, 95, 96, 97, 98, 99, 100, 101, 34, 620, 621, 622, 623, 624, 625, 626, 627, 628, 629, 630, 631, 35, 632, 254, 255, 256, 102, 103, 104, 105, 88, 89, 633, 219, 220, 221, 793, 794, 795, 796, 797, 798, 799, 800, 801, 814, 815, 816, 817, 818, 819, 820, 821, 822, 823] (by decide +kernel) (by decide +kernel)) (goodIn_sub (fun _ h => List.mem_append_left _ (List.mem_append_left _ (List.mem_append_right _ h))) (by decide +kernel))
set_option maxRecDepth 20000 in
theorem gL_law_L_count : GoodIn wsL_law (va_wsS RL 143 yL_count wsL_count) := goodIn_app (goodIn_of _ (by decide +kernel)) ggL_law_L_count
set_option maxRecDepth 20000 in
theorem ggL_law_X4_count : GoodIn wsL_law wsX4_count := goodIn_r _ [637, 135, 139, 140, 5, 141, 638, 639, 640, 641, 62, 170, 146, 147, 148, 149, 150, 151, 152, 153, 389, 390, 391, 392, 158, 159, 160, 161, 269, 270, 271, 272, 162, 163, 164, 165, 234, 235, 236, 237, 802, 803, 804, 805, 806, 807, 808, 809, 810, 811, 812, 813] (by decide +kernel) (by decide +kernel)
set_option maxRecDepth 20000 in
theorem gL_law_X4_count : GoodIn wsL_law (wsV RL 145 RX4 yX4_count wsX4_count) := goodIn_app (goodIn_of _ (by decide +kernel)) ggL_law_X4_count
set_option maxRecDepth 20000 in
theorem ggL_law_L_step : GoodIn wsL_law wsL_step := goodIn_ca (goodIn_r _ [644, 72, 645, 646, 647, 2, 648, 78, 79, 16, 793, 794, 795, 796, 797, 798, 799, 800, 801, 814, 815, 816, 817, 818, 819, 820, 821, 822, 823, 828, 829, 830] (by decide +kernel) (by decide +kernel)) (goodIn_sub (fun _ h => List.mem_append_left _ (List.mem_append_left _ (List.mem_append_right _ h))) (by decide +kernel))
set_option maxRecDepth 20000 in
theorem gL_law_L_step : GoodIn wsL_law (va_wsS RL 146 yL_step wsL_step) := goodIn_app (goodIn_of _ (by decide +kernel)) ggL_law_L_step
set_option maxRecDepth 20000 in
theorem ggL_law_X4_step : GoodIn wsL_law wsX4_step := goodIn_r _ [652, 135, 62, 139, 140, 5, 141, 802, 803, 804, 805, 806, 807, 808, 809, 810, 811, 812, 813] (by decide +kernel) (by decide +kernel)
set_option maxRecDepth 20000 in
theorem gL_law_X4_step : GoodIn wsL_law (wsV RL 148 RX4 yX4_step wsX4_step) := goodIn_app (goodIn_of _ (by decide +kernel)) ggL_law_X4_step
set_option maxRecDepth 20000 in
theorem ggL_law_L_whyNot : GoodIn wsL_law wsL_whyNot := goodIn_ca (goodIn_ca (goodIn_r _ [655, 71, 72, 656, 657, 658, 2, 659, 16, 190, 191, 192, 193, 85, 86, 194, 99, 100, 15, 101, 34, 302, 303, 304, 78, 79, 305, 306, 307, 308, 119, 793, 794, 795, 796, 797, 798, 799, 800, 801, 814, 815, 816, 817, 818, 819, 820, 821, 822, 823] (by decide +kernel) (by decide +kernel)) (goodIn_sub (fun _ h => List.mem_append_right _ h) (by decide +kernel))) (goodIn_sub (fun _ h => List.mem_append_left _ (List.mem_append_left _ (List.mem_append_right _ h))) (by decide +kernel))
set_option maxRecDepth 20000 in
theorem gL_law_L_whyNot : GoodIn wsL_law (va_wsS RL 149 yL_whyNot wsL_whyNot) := goodIn_app (goodIn_of _ (by decide +kernel)) ggL_law_L_whyNot
set_option maxRecDepth 20000 in
theorem ggL_law_X4_whyNot : GoodIn wsL_law wsX4_whyNot := goodIn_r _ [663, 135, 158, 159, 160, 5, 161, 139, 140, 141, 150, 151, 152, 153, 62, 345, 346, 347, 348, 802, 803, 804, 805, 806, 807, 808, 809, 810, 811, 812, 813] (by decide +kernel) (by decide +kernel)
set_option maxRecDepth 20000 in
theorem gL_law_X4_whyNot : GoodIn wsL_law (wsV RL 151 RX4 yX4_whyNot wsX4_whyNot) := goodIn_app (goodIn_of _ (by decide +kernel)) ggL_law_X4_whyNot
set_option maxRecDepth 20000 in
theorem ggL_law_L_ifHome : GoodIn wsL_law wsL_ifHome := goodIn_ca (goodIn_ca (goodIn_r _ [666, 71, 72, 667, 668, 669, 2, 670, 78, 79, 190, 191, 192, 193, 85, 86, 16, 194, 99, 100, 15, 101, 34, 302, 303, 304, 671, 672, 673, 674, 17, 305, 306, 307, 308, 119, 110, 111, 112, 113, 114, 115, 116, 117, 35, 36, 37, 38, 42, 118, 120, 121, 122, 123, 124, 41, 125, 47, 126, 48, 49, 309, 310, 311, 312, 102, 103, 104, 105, 88, 89, 313, 314, 315, 316, 98, 317, 318, 319, 320, 321, 322, 323, 324, 325, 326, 327, 328, 329, 330, 331, 332, 333, 334, 335, 336, 337, 338, 339, 340, 675, 676, 677, 678, 679, 625, 626, 627, 793, 794, 795, 796, 797, 798, 799, 800, 801, 814, 815, 816, 817, 818, 819, 820, 821, 822, 823, 828, 829, 830] (by decide +kernel) (by decide +kernel)) (goodIn_sub (fun _ h => List.mem_append_left _ (List.mem_append_left _ (List.mem_append_right _ h))) (by decide +kernel))) (goodIn_sub (fun _ h => List.mem_append_right _ h) (by decide +kernel))
set_option maxRecDepth 20000 in
theorem gL_law_L_ifHome : GoodIn wsL_law (va_wsS RL 152 yL_ifHome wsL_ifHome) := goodIn_app (goodIn_of _ (by decide +kernel)) ggL_law_L_ifHome
