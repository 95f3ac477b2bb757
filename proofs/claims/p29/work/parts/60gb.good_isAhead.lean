set_option maxRecDepth 20000 in
theorem ggL_isAhead_X3_whyNot : GoodIn wsL_isAhead wsX3_whyNot := goodIn_ca (goodIn_ca (goodIn_r _ [15, 16, 17, 18, 19, 14, 20, 21, 22, 23, 24, 25, 26, 27, 28, 29, 30, 31, 32, 33, 34, 35, 36, 37, 38, 165, 166, 167, 168, 169, 170, 171, 172, 173, 174, 175, 176, 177, 178, 179, 180, 181, 182, 183] (by decide +kernel) (by decide +kernel)) (goodIn_sub (fun _ h => List.mem_cons_of_mem _ (List.mem_append_left _ (List.mem_append_right _ h))) (by decide +kernel))) (goodIn_sub (fun _ h => List.mem_cons_of_mem _ (List.mem_append_right _ h)) (by decide +kernel))
set_option maxRecDepth 20000 in
theorem gL_isAhead_X3_whyNot : GoodIn wsL_isAhead (wsV RL 53 RX3 yX3_whyNot wsX3_whyNot) := goodIn_app (goodIn_of _ (by decide +kernel)) ggL_isAhead_X3_whyNot
set_option maxRecDepth 20000 in
theorem ggL_isAhead_X3_ifHome : GoodIn wsL_isAhead wsX3_ifHome := goodIn_ca (goodIn_ca (goodIn_r _ [45, 32, 33, 17, 18, 19, 14, 20, 21, 22, 16, 23, 24, 25, 26, 27, 28, 29, 30, 31, 46, 47, 48, 49, 50, 34, 35, 36, 37, 38, 51, 52, 53, 54, 55, 56, 57, 58, 59, 60, 61, 62, 63, 64, 65, 66, 67, 68, 69, 70, 71, 72, 73, 74, 75, 76, 77, 78, 79, 80, 81, 82, 83, 84, 85, 86, 87, 88, 89, 90, 91, 92, 93, 94, 95, 96, 97, 98, 99, 100, 101, 102, 103, 104, 105, 106, 107, 108, 109, 110, 111, 112, 113, 114, 115, 116, 117, 118, 119, 120, 121, 122, 165, 166, 167, 168, 169, 170, 171, 172, 173, 174, 175, 176, 177, 178, 179, 180, 181, 182, 183, 184, 185, 186] (by decide +kernel) (by decide +kernel)) (goodIn_sub (fun _ h => List.mem_cons_of_mem _ (List.mem_append_right _ h)) (by decide +kernel))) (goodIn_sub (fun _ h => List.mem_cons_of_mem _ (List.mem_append_left _ (List.mem_append_right _ h))) (by decide +kernel))
set_option maxRecDepth 20000 in
theorem gL_isAhead_X3_ifHome : GoodIn wsL_isAhead (wsV RL 56 RX3 yX3_ifHome wsX3_ifHome) := goodIn_app (goodIn_of _ (by decide +kernel)) ggL_isAhead_X3_ifHome
set_option maxRecDepth 20000 in
theorem ggL_isAhead_L_many : GoodIn wsL_isAhead wsL_many := goodIn_r _ [147, 2, 3, 4, 5] (by decide +kernel) (by decide +kernel)
set_option maxRecDepth 20000 in
theorem gL_isAhead_L_many : GoodIn wsL_isAhead (va_wsS RL 102 yL_many wsL_many) := goodIn_app (goodIn_of _ (by decide +kernel)) ggL_isAhead_L_many
set_option maxRecDepth 20000 in
theorem ggL_isAhead_X3_lateIsAsGood : GoodIn wsL_isAhead wsX3_lateIsAsGood := goodIn_r _ [151, 16, 152, 153, 154, 14, 155, 50, 51, 52, 53, 26, 54, 28, 55, 56, 57, 58, 59, 60, 61, 62, 63, 64, 38, 65, 66, 67, 68, 69, 70, 71, 72, 73, 74, 75, 23, 24, 25, 27, 76, 77, 78, 79, 80, 81, 82, 83, 84, 85, 86, 87, 88, 89, 90, 91, 92, 93, 94, 95, 96, 97, 98, 99, 100, 101, 102, 103, 104, 105, 106, 107, 108, 109, 110, 111, 112, 113, 114, 156, 157, 158, 159, 160, 161, 162, 163, 164, 120, 121, 122, 165, 166, 167, 168, 169, 170, 171, 172, 173, 174, 175, 176, 177, 178, 179, 180, 181, 182, 183, 184, 185, 186] (by decide +kernel) (by decide +kernel)
set_option maxRecDepth 20000 in
theorem gL_isAhead_X3_lateIsAsGood : GoodIn wsL_isAhead (wsV RL 106 RX3 yX3_lateIsAsGood wsX3_lateIsAsGood) := goodIn_app (goodIn_of _ (by decide +kernel)) ggL_isAhead_X3_lateIsAsGood
