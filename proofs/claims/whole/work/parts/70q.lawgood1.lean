/-! the law's calls: words -/
set_option maxRecDepth 20000 in
theorem ggL_law_L_shut : GoodIn wsL_law wsL_shut := goodIn_ca (goodIn_ca (goodIn_r _ [240, 71, 73, 241, 242, 243, 2, 244, 80, 81, 16, 82, 83, 84, 85, 86, 87, 88, 89, 245, 246, 247, 15, 248, 35, 102, 103, 104, 105, 106, 107, 108, 109, 21, 20, 110, 111, 112, 113, 34, 114, 115, 116, 117, 36, 37, 38, 42, 118, 119, 120, 121, 122, 123, 124, 41, 125, 47, 126, 48, 49, 249, 250, 251, 252, 253, 254, 255, 256, 793, 794, 795, 796, 797, 798, 799, 800, 801, 814, 815, 816, 817, 818, 819, 820, 821, 822, 823, 828, 829, 830] (by decide +kernel) (by decide +kernel)) (goodIn_sub (fun _ h => List.mem_append_left _ (List.mem_append_right _ h)) (by decide +kernel))) (goodIn_sub (fun _ h => List.mem_append_right _ h) (by decide +kernel))
set_option maxRecDepth 20000 in
theorem gL_law_L_shut : GoodIn wsL_law (va_wsS RL 93 yL_shut wsL_shut) := goodIn_app (goodIn_of _ (by decide +kernel)) ggL_law_L_shut
set_option maxRecDepth 20000 in
theorem ggL_law_X4_shut : GoodIn wsL_law wsX4_shut := goodIn_r _ [260, 135, 62, 136, 137, 5, 138, 139, 140, 141, 261, 262, 263, 264, 265, 266, 267, 268, 158, 159, 160, 161, 150, 151, 152, 153, 162, 163, 164, 165, 166, 167, 168, 169, 170, 64, 269, 270, 271, 272, 802, 803, 804, 805, 806, 807, 808, 809, 810, 811, 812, 813] (by decide +kernel) (by decide +kernel)
set_option maxRecDepth 20000 in
theorem gL_law_X4_shut : GoodIn wsL_law (wsV RL 95 RX4 yX4_shut wsX4_shut) := goodIn_app (goodIn_of _ (by decide +kernel)) ggL_law_X4_shut
set_option maxRecDepth 20000 in
theorem ggL_law_L_open : GoodIn wsL_law wsL_open := goodIn_ca (goodIn_r _ [275, 71, 276, 277, 278, 2, 279, 16, 82, 83, 84, 85, 86, 87, 88, 89, 106, 107, 108, 109, 21, 20, 110, 111, 112, 15, 113, 34, 114, 115, 116, 117, 35, 36, 37, 38, 42, 118, 119, 120, 121, 122, 123, 124, 41, 125, 47, 126, 48, 49, 249, 250, 251, 252, 253, 254, 255, 256, 102, 103, 104, 105, 793, 794, 795, 796, 797, 798, 799, 800, 801, 814, 815, 816, 817, 818, 819, 820, 821, 822, 823, 828, 829, 830] (by decide +kernel) (by decide +kernel)) (goodIn_sub (fun _ h => List.mem_append_right _ h) (by decide +kernel))
set_option maxRecDepth 20000 in
theorem gL_law_L_open : GoodIn wsL_law (va_wsS RL 96 yL_open wsL_open) := goodIn_app (goodIn_of _ (by decide +kernel)) ggL_law_L_open
set_option maxRecDepth 20000 in
theorem ggL_law_X4_open : GoodIn wsL_law wsX4_open := goodIn_r _ [283, 135, 62, 136, 137, 5, 138, 139, 140, 141, 166, 167, 168, 169, 170, 64, 269, 270, 271, 272, 162, 163, 164, 165, 802, 803, 804, 805, 806, 807, 808, 809, 810, 811, 812, 813] (by decide +kernel) (by decide +kernel)
set_option maxRecDepth 20000 in
theorem gL_law_X4_open : GoodIn wsL_law (wsV RL 98 RX4 yX4_open wsX4_open) := goodIn_app (goodIn_of _ (by decide +kernel)) ggL_law_X4_open
set_option maxRecDepth 20000 in
theorem ggL_law_L_set : GoodIn wsL_law wsL_set := goodIn_ca (goodIn_ca (goodIn_r _ [286, 71, 72, 287, 288, 289, 2, 290, 85, 86, 78, 79, 16, 106, 107, 108, 109, 21, 20, 110, 111, 112, 15, 113, 34, 114, 115, 116, 117, 35, 36, 37, 38, 42, 118, 119, 120, 121, 122, 123, 124, 41, 125, 47, 126, 48, 49, 793, 794, 795, 796, 797, 798, 799, 800, 801, 814, 815, 816, 817, 818, 819, 820, 821, 822, 823, 828, 829, 830] (by decide +kernel) (by decide +kernel)) (goodIn_sub (fun _ h => List.mem_append_right _ h) (by decide +kernel))) (goodIn_sub (fun _ h => List.mem_append_left _ (List.mem_append_left _ (List.mem_append_right _ h))) (by decide +kernel))
set_option maxRecDepth 20000 in
theorem gL_law_L_set : GoodIn wsL_law (va_wsS RL 99 yL_set wsL_set) := goodIn_app (goodIn_of _ (by decide +kernel)) ggL_law_L_set
set_option maxRecDepth 20000 in
theorem ggL_law_X4_set : GoodIn wsL_law wsX4_set := goodIn_r _ [294, 135, 62, 139, 140, 5, 141, 166, 167, 168, 169, 170, 64, 802, 803, 804, 805, 806, 807, 808, 809, 810, 811, 812, 813] (by decide +kernel) (by decide +kernel)
set_option maxRecDepth 20000 in
theorem gL_law_X4_set : GoodIn wsL_law (wsV RL 101 RX4 yX4_set wsX4_set) := goodIn_app (goodIn_of _ (by decide +kernel)) ggL_law_X4_set
set_option maxRecDepth 20000 in
theorem ggL_law_L_home : GoodIn wsL_law wsL_home := goodIn_ca (goodIn_ca (goodIn_ca (goodIn_r _ [297, 71, 72, 73, 298, 299, 300, 2, 301, 80, 81, 16, 190, 191, 192, 193, 85, 86, 194, 99, 100, 15, 101, 34, 302, 303, 304, 78, 79, 305, 306, 307, 308, 119, 106, 107, 108, 109, 21, 20, 110, 111, 112, 113, 114, 115, 116, 117, 35, 36, 37, 38, 42, 118, 120, 121, 122, 123, 124, 41, 125, 47, 126, 48, 49, 309, 310, 311, 312, 102, 103, 104, 105, 88, 89, 313, 314, 315, 316, 98, 317, 318, 319, 320, 321, 322, 323, 324, 325, 326, 327, 328, 329, 330, 331, 332, 333, 334, 335, 336, 337, 338, 339, 340, 793, 794, 795, 796, 797, 798, 799, 800, 801, 814, 815, 816, 817, 818, 819, 820, 821, 822, 823, 828, 829, 830] (by decide +kernel) (by decide +kernel)) (goodIn_sub (fun _ h => List.mem_append_left _ (List.mem_append_right _ h)) (by decide +kernel))) (goodIn_sub (fun _ h => List.mem_append_right _ h) (by decide +kernel))) (goodIn_sub (fun _ h => List.mem_append_left _ (List.mem_append_left _ (List.mem_append_right _ h))) (by decide +kernel))
set_option maxRecDepth 20000 in
theorem gL_law_L_home : GoodIn wsL_law (va_wsS RL 102 yL_home wsL_home) := goodIn_app (goodIn_of _ (by decide +kernel)) ggL_law_L_home
set_option maxRecDepth 20000 in
theorem ggL_law_X4_home : GoodIn wsL_law wsX4_home := goodIn_r _ [344, 135, 158, 159, 160, 5, 161, 139, 140, 141, 150, 151, 152, 153, 62, 345, 346, 347, 348, 166, 167, 168, 169, 170, 64, 349, 350, 351, 352, 175, 176, 177, 178, 162, 163, 164, 165, 265, 266, 267, 268, 353, 354, 355, 356, 357, 358, 359, 360, 361, 362, 363, 364, 136, 137, 138, 365, 366, 367, 368, 802, 803, 804, 805, 806, 807, 808, 809, 810, 811, 812, 813] (by decide +kernel) (by decide +kernel)
set_option maxRecDepth 20000 in
theorem gL_law_X4_home : GoodIn wsL_law (wsV RL 104 RX4 yX4_home wsX4_home) := goodIn_app (goodIn_of _ (by decide +kernel)) ggL_law_X4_home
