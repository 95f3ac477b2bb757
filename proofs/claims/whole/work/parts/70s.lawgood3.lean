/-! the law's calls: words -/
set_option maxRecDepth 20000 in
theorem ggL_law_X4_pass : GoodIn wsL_law wsX4_pass := goodIn_r _ [528, 135, 62, 404, 469, 470, 471, 5, 472, 66, 473, 474, 475, 476, 477, 478, 479, 480, 481, 482, 483, 484, 485, 486, 487, 488, 489, 490, 491, 139, 140, 141, 166, 167, 168, 169, 170, 64, 529, 530, 531, 532, 158, 159, 160, 161, 150, 151, 152, 153, 345, 346, 347, 348, 142, 143, 144, 145, 146, 147, 148, 149, 154, 155, 156, 157, 162, 163, 164, 165, 226, 227, 228, 229, 261, 262, 263, 264, 265, 266, 267, 268, 533, 534, 535, 536, 349, 350, 351, 352, 175, 176, 177, 178, 353, 354, 355, 356, 357, 358, 359, 360, 361, 362, 363, 364, 136, 137, 138, 365, 366, 367, 368, 171, 172, 173, 174, 230, 231, 232, 233, 234, 235, 236, 237, 385, 386, 387, 388, 389, 390, 391, 392, 802, 803, 804, 805, 806, 807, 808, 809, 810, 811, 812, 813] (by decide +kernel) (by decide +kernel)
set_option maxRecDepth 20000 in
theorem gL_law_X4_pass : GoodIn wsL_law (wsV RL 123 RX4 yX4_pass wsX4_pass) := goodIn_app (goodIn_of _ (by decide +kernel)) ggL_law_X4_pass
set_option maxRecDepth 20000 in
theorem ggL_law_L_stopped : GoodIn wsL_law wsL_stopped := goodIn_ca (goodIn_r _ [539, 72, 540, 541, 542, 2, 543, 78, 79, 16, 793, 794, 795, 796, 797, 798, 799, 800, 801, 814, 815, 816, 817, 818, 819, 820, 821, 822, 823] (by decide +kernel) (by decide +kernel)) (goodIn_sub (fun _ h => List.mem_append_left _ (List.mem_append_left _ (List.mem_append_right _ h))) (by decide +kernel))
set_option maxRecDepth 20000 in
theorem gL_law_L_stopped : GoodIn wsL_law (va_wsS RL 124 yL_stopped wsL_stopped) := goodIn_app (goodIn_of _ (by decide +kernel)) ggL_law_L_stopped
set_option maxRecDepth 20000 in
theorem ggL_law_X4_stopped : GoodIn wsL_law wsX4_stopped := goodIn_r _ [547, 135, 62, 139, 140, 5, 141, 802, 803, 804, 805, 806, 807, 808, 809, 810, 811, 812, 813] (by decide +kernel) (by decide +kernel)
set_option maxRecDepth 20000 in
theorem gL_law_X4_stopped : GoodIn wsL_law (wsV RL 126 RX4 yX4_stopped wsX4_stopped) := goodIn_app (goodIn_of _ (by decide +kernel)) ggL_law_X4_stopped
set_option maxRecDepth 20000 in
theorem ggL_law_L_undo : GoodIn wsL_law wsL_undo := goodIn_ca (goodIn_r _ [550, 73, 551, 552, 553, 2, 554, 80, 81, 21, 16, 20, 110, 111, 112, 15, 113, 34, 114, 115, 116, 117, 35, 36, 37, 38, 42, 118, 119, 120, 121, 122, 123, 124, 41, 125, 47, 126, 48, 49, 793, 794, 795, 796, 797, 798, 799, 800, 801, 814, 815, 816, 817, 818, 819, 820, 821, 822, 823, 828, 829, 830] (by decide +kernel) (by decide +kernel)) (goodIn_sub (fun _ h => List.mem_append_left _ (List.mem_append_right _ h)) (by decide +kernel))
set_option maxRecDepth 20000 in
theorem gL_law_L_undo : GoodIn wsL_law (va_wsS RL 127 yL_undo wsL_undo) := goodIn_app (goodIn_of _ (by decide +kernel)) ggL_law_L_undo
set_option maxRecDepth 20000 in
theorem ggL_law_X4_undo : GoodIn wsL_law wsX4_undo := goodIn_r _ [558, 170, 135, 62, 64, 802, 803, 804, 805, 806, 807, 808, 809, 810, 811, 812, 813] (by decide +kernel) (by decide +kernel)
set_option maxRecDepth 20000 in
theorem gL_law_X4_undo : GoodIn wsL_law (wsV RL 129 RX4 yX4_undo wsX4_undo) := goodIn_app (goodIn_of _ (by decide +kernel)) ggL_law_X4_undo
set_option maxRecDepth 20000 in
theorem ggL_law_X3_keep : GoodIn wsL_law wsX3_keep := goodIn_r _ [562, 18, 16, 19, 110, 111, 112, 15, 113, 34, 114, 115, 116, 117, 35, 36, 37, 38, 42, 118, 119, 120, 121, 122, 123, 124, 41, 125, 47, 126, 48, 49, 793, 794, 795, 796, 797, 798, 799, 800, 801, 814, 815, 816, 817, 818, 819, 820, 821, 822, 823, 828, 829, 830] (by decide +kernel) (by decide +kernel)
set_option maxRecDepth 20000 in
theorem gL_law_X3_keep : GoodIn wsL_law (wsV RL 130 RX3 yX3_keep wsX3_keep) := goodIn_app (goodIn_of _ (by decide +kernel)) ggL_law_X3_keep
set_option maxRecDepth 20000 in
theorem ggL_law_X4_keep : GoodIn wsL_law wsX4_keep := goodIn_r _ [566, 135, 65, 62, 567, 802, 803, 804, 805, 806, 807, 808, 809, 810, 811, 812, 813] (by decide +kernel) (by decide +kernel)
set_option maxRecDepth 20000 in
theorem gL_law_X4_keep : GoodIn wsL_law (wsV RL 133 RX4 yX4_keep wsX4_keep) := goodIn_app (goodIn_of _ (by decide +kernel)) ggL_law_X4_keep
set_option maxRecDepth 20000 in
theorem ggL_law_L_restore : GoodIn wsL_law wsL_restore := goodIn_ca (goodIn_r _ [570, 73, 571, 572, 573, 2, 574, 80, 81, 19, 16, 18, 106, 107, 108, 109, 21, 20, 110, 111, 112, 15, 113, 34, 114, 115, 116, 117, 35, 36, 37, 38, 42, 118, 119, 120, 121, 122, 123, 124, 41, 125, 47, 126, 48, 49, 793, 794, 795, 796, 797, 798, 799, 800, 801, 814, 815, 816, 817, 818, 819, 820, 821, 822, 823, 828, 829, 830] (by decide +kernel) (by decide +kernel)) (goodIn_sub (fun _ h => List.mem_append_left _ (List.mem_append_right _ h)) (by decide +kernel))
set_option maxRecDepth 20000 in
theorem gL_law_L_restore : GoodIn wsL_law (va_wsS RL 134 yL_restore wsL_restore) := goodIn_app (goodIn_of _ (by decide +kernel)) ggL_law_L_restore
set_option maxRecDepth 20000 in
theorem ggL_law_X4_restore : GoodIn wsL_law wsX4_restore := goodIn_r _ [578, 567, 135, 62, 65, 166, 167, 168, 5, 169, 170, 64, 802, 803, 804, 805, 806, 807, 808, 809, 810, 811, 812, 813] (by decide +kernel) (by decide +kernel)
set_option maxRecDepth 20000 in
theorem gL_law_X4_restore : GoodIn wsL_law (wsV RL 136 RX4 yX4_restore wsX4_restore) := goodIn_app (goodIn_of _ (by decide +kernel)) ggL_law_X4_restore
set_option maxRecDepth 20000 in
theorem ggL_law_L_dove : GoodIn wsL_law wsL_dove := goodIn_ca (goodIn_ca (goodIn_r _ [581, 71, 72, 582, 583, 584, 2, 585, 78, 79, 16, 190, 191, 192, 193, 85, 86, 194, 99, 100, 15, 101, 34, 793, 794, 795, 796, 797, 798, 799, 800, 801, 814, 815, 816, 817, 818, 819, 820, 821, 822, 823] (by decide +kernel) (by decide +kernel)) (goodIn_sub (fun _ h => List.mem_append_left _ (List.mem_append_left _ (List.mem_append_right _ h))) (by decide +kernel))) (goodIn_sub (fun _ h => List.mem_append_right _ h) (by decide +kernel))
set_option maxRecDepth 20000 in
theorem gL_law_L_dove : GoodIn wsL_law (va_wsS RL 137 yL_dove wsL_dove) := goodIn_app (goodIn_of _ (by decide +kernel)) ggL_law_L_dove
set_option maxRecDepth 20000 in
theorem ggL_law_X4_dove : GoodIn wsL_law wsX4_dove := goodIn_r _ [589, 135, 158, 159, 160, 5, 161, 139, 140, 141, 150, 151, 152, 153, 62, 590, 591, 592, 593, 802, 803, 804, 805, 806, 807, 808, 809, 810, 811, 812, 813] (by decide +kernel) (by decide +kernel)
set_option maxRecDepth 20000 in
theorem gL_law_X4_dove : GoodIn wsL_law (wsV RL 139 RX4 yX4_dove wsX4_dove) := goodIn_app (goodIn_of _ (by decide +kernel)) ggL_law_X4_dove
