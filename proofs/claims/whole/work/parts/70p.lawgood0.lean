/-! the law's calls: words -/
set_option maxRecDepth 20000 in
theorem ggL_law_X3_init : GoodIn wsL_law wsX3_init := goodIn_r _ [9, 10, 11, 12, 13, 14, 15, 16, 17, 18, 19, 20, 21, 22, 23, 24, 25, 26, 27, 28, 29, 30, 31, 32, 33, 34, 35, 36, 37, 38, 39, 40, 41, 42, 43, 44, 45, 46, 47, 48, 49, 50, 51, 52, 53, 54, 55, 56, 57, 814, 815, 816, 817, 818, 819, 820, 821, 822, 823, 793, 794, 795, 796, 797, 798, 799, 800, 801, 824, 825, 826, 827, 828, 829, 830] (by decide +kernel) (by decide +kernel)
set_option maxRecDepth 20000 in
theorem gL_law_X3_init : GoodIn wsL_law (wsX3_init) := ggL_law_X3_init
set_option maxRecDepth 20000 in
theorem ggL_law_X4_init : GoodIn wsL_law wsX4_init := goodIn_r _ [60, 61, 11, 12, 22, 62, 63, 64, 65, 66, 802, 803, 804, 805, 806, 807, 808, 809, 810, 811, 812, 813] (by decide +kernel) (by decide +kernel)
set_option maxRecDepth 20000 in
theorem gL_law_X4_init : GoodIn wsL_law (wsX4_init) := ggL_law_X4_init
set_option maxRecDepth 20000 in
theorem ggL_law_L_buy : GoodIn wsL_law wsL_buy := goodIn_ca (goodIn_ca (goodIn_ca (goodIn_r _ [70, 71, 72, 73, 74, 75, 76, 2, 77, 78, 79, 80, 81, 16, 82, 83, 84, 85, 86, 87, 88, 89, 90, 91, 92, 15, 93, 35, 94, 95, 96, 97, 98, 99, 100, 101, 34, 102, 103, 104, 105, 106, 107, 108, 109, 21, 20, 110, 111, 112, 113, 114, 115, 116, 117, 36, 37, 38, 42, 118, 119, 120, 121, 122, 123, 124, 41, 125, 47, 126, 48, 49, 127, 128, 129, 130, 793, 794, 795, 796, 797, 798, 799, 800, 801, 814, 815, 816, 817, 818, 819, 820, 821, 822, 823, 828, 829, 830] (by decide +kernel) (by decide +kernel)) (goodIn_sub (fun _ h => List.mem_append_left _ (List.mem_append_left _ (List.mem_append_right _ h))) (by decide +kernel))) (goodIn_sub (fun _ h => List.mem_append_left _ (List.mem_append_right _ h)) (by decide +kernel))) (goodIn_sub (fun _ h => List.mem_append_right _ h) (by decide +kernel))
set_option maxRecDepth 20000 in
theorem gL_law_L_buy : GoodIn wsL_law (va_wsS RL 77 yL_buy wsL_buy) := goodIn_app (goodIn_of _ (by decide +kernel)) ggL_law_L_buy
set_option maxRecDepth 20000 in
theorem ggL_law_X4_buy : GoodIn wsL_law wsX4_buy := goodIn_r _ [134, 135, 136, 137, 5, 138, 139, 140, 141, 142, 143, 144, 145, 146, 147, 148, 149, 150, 151, 152, 153, 62, 154, 155, 156, 157, 158, 159, 160, 161, 162, 163, 164, 165, 166, 167, 168, 169, 170, 64, 171, 172, 173, 174, 175, 176, 177, 178, 802, 803, 804, 805, 806, 807, 808, 809, 810, 811, 812, 813] (by decide +kernel) (by decide +kernel)
set_option maxRecDepth 20000 in
theorem gL_law_X4_buy : GoodIn wsL_law (wsV RL 82 RX4 yX4_buy wsX4_buy) := goodIn_app (goodIn_of _ (by decide +kernel)) ggL_law_X4_buy
set_option maxRecDepth 20000 in
theorem ggL_law_X4_thrown : GoodIn wsL_law wsX4_thrown := goodIn_r _ [182, 135, 802, 803, 804, 805, 806, 807, 808, 809, 810, 811, 812, 813] (by decide +kernel) (by decide +kernel)
set_option maxRecDepth 20000 in
theorem gL_law_X4_thrown : GoodIn wsL_law (wsV RL 83 RX4 yX4_thrown wsX4_thrown) := goodIn_app (goodIn_of _ (by decide +kernel)) ggL_law_X4_thrown
set_option maxRecDepth 20000 in
theorem ggL_law_L_sell : GoodIn wsL_law wsL_sell := goodIn_ca (goodIn_r _ [185, 71, 186, 187, 188, 2, 189, 16, 190, 191, 192, 193, 85, 86, 194, 99, 100, 15, 101, 34, 106, 107, 108, 109, 21, 20, 110, 111, 112, 113, 114, 115, 116, 117, 35, 36, 37, 38, 42, 118, 119, 120, 121, 122, 123, 124, 41, 125, 47, 126, 48, 49, 195, 196, 197, 198, 88, 89, 98, 793, 794, 795, 796, 797, 798, 799, 800, 801, 814, 815, 816, 817, 818, 819, 820, 821, 822, 823, 828, 829, 830] (by decide +kernel) (by decide +kernel)) (goodIn_sub (fun _ h => List.mem_append_right _ h) (by decide +kernel))
set_option maxRecDepth 20000 in
theorem gL_law_L_sell : GoodIn wsL_law (va_wsS RL 86 yL_sell wsL_sell) := goodIn_app (goodIn_of _ (by decide +kernel)) ggL_law_L_sell
set_option maxRecDepth 20000 in
theorem ggL_law_X4_sell : GoodIn wsL_law wsX4_sell := goodIn_r _ [202, 135, 158, 159, 160, 5, 161, 139, 140, 141, 150, 151, 152, 153, 62, 166, 167, 168, 169, 170, 64, 175, 176, 177, 178, 802, 803, 804, 805, 806, 807, 808, 809, 810, 811, 812, 813] (by decide +kernel) (by decide +kernel)
set_option maxRecDepth 20000 in
theorem gL_law_X4_sell : GoodIn wsL_law (wsV RL 89 RX4 yX4_sell wsX4_sell) := goodIn_app (goodIn_of _ (by decide +kernel)) ggL_law_X4_sell
set_option maxRecDepth 20000 in
theorem ggL_law_L_mate : GoodIn wsL_law wsL_mate := goodIn_ca (goodIn_ca (goodIn_r _ [205, 71, 73, 206, 207, 208, 2, 209, 80, 81, 16, 190, 191, 192, 193, 85, 86, 194, 99, 100, 15, 101, 34, 210, 211, 212, 213, 106, 107, 108, 109, 21, 20, 110, 111, 112, 113, 114, 115, 116, 117, 35, 36, 37, 38, 42, 118, 119, 120, 121, 122, 123, 124, 41, 125, 47, 126, 48, 49, 214, 215, 216, 217, 218, 219, 220, 221, 98, 793, 794, 795, 796, 797, 798, 799, 800, 801, 814, 815, 816, 817, 818, 819, 820, 821, 822, 823, 828, 829, 830] (by decide +kernel) (by decide +kernel)) (goodIn_sub (fun _ h => List.mem_append_left _ (List.mem_append_right _ h)) (by decide +kernel))) (goodIn_sub (fun _ h => List.mem_append_right _ h) (by decide +kernel))
set_option maxRecDepth 20000 in
theorem gL_law_L_mate : GoodIn wsL_law (va_wsS RL 90 yL_mate wsL_mate) := goodIn_app (goodIn_of _ (by decide +kernel)) ggL_law_L_mate
set_option maxRecDepth 20000 in
theorem ggL_law_X4_mate : GoodIn wsL_law wsX4_mate := goodIn_r _ [225, 135, 158, 159, 160, 5, 161, 139, 140, 141, 150, 151, 152, 153, 62, 226, 227, 228, 229, 166, 167, 168, 169, 170, 64, 230, 231, 232, 233, 175, 176, 177, 178, 234, 235, 236, 237, 802, 803, 804, 805, 806, 807, 808, 809, 810, 811, 812, 813] (by decide +kernel) (by decide +kernel)
set_option maxRecDepth 20000 in
theorem gL_law_X4_mate : GoodIn wsL_law (wsV RL 92 RX4 yX4_mate wsX4_mate) := goodIn_app (goodIn_of _ (by decide +kernel)) ggL_law_X4_mate
