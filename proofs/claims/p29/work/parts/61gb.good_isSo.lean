set_option maxRecDepth 20000 in
theorem ggL_isSo_X3_step : GoodIn wsL_isSo wsX3_step := goodIn_ca (goodIn_r _ [49, 15, 16, 17, 112, 113, 114, 115, 116, 117, 118, 119, 120, 121, 122, 123, 124, 125, 126, 127, 128, 129, 130, 131, 132, 133] (by decide +kernel) (by decide +kernel)) (goodIn_sub (fun _ h => List.mem_cons_of_mem _ (List.mem_append_left _ (List.mem_append_right _ h))) (by decide +kernel))
set_option maxRecDepth 20000 in
theorem gL_isSo_X3_step : GoodIn wsL_isSo (wsV RL 60 RX3 yX3_step wsX3_step) := goodIn_app (goodIn_of _ (by decide +kernel)) ggL_isSo_X3_step
set_option maxRecDepth 20000 in
theorem ggL_isSo_X3_count : GoodIn wsL_isSo wsX3_count := goodIn_ca (goodIn_r _ [53, 15, 16, 54, 17, 55, 56, 57, 27, 58, 59, 60, 61, 62, 63, 64, 65, 66, 67, 68, 69, 25, 26, 28, 29, 70, 71, 72, 73, 74, 75, 76, 77, 78, 79, 80, 81, 82, 83, 84, 85, 86, 87, 88, 89, 90, 38, 13, 39, 91, 92, 93, 94, 112, 113, 114, 115, 116, 117, 118, 119, 120, 121, 122, 123, 124, 125, 126, 127, 128, 129, 130] (by decide +kernel) (by decide +kernel)) (goodIn_sub (fun _ h => List.mem_cons_of_mem _ (List.mem_append_left _ (List.mem_append_right _ h))) (by decide +kernel))
set_option maxRecDepth 20000 in
theorem gL_isSo_X3_count : GoodIn wsL_isSo (wsV RL 114 RX3 yX3_count wsX3_count) := goodIn_app (goodIn_of _ (by decide +kernel)) ggL_isSo_X3_count
set_option maxRecDepth 20000 in
theorem ggL_isSo_L_many : GoodIn wsL_isSo wsL_many := goodIn_r _ [97, 1, 2, 3, 4] (by decide +kernel) (by decide +kernel)
set_option maxRecDepth 20000 in
theorem gL_isSo_L_many : GoodIn wsL_isSo (va_wsS RL 102 yL_many wsL_many) := goodIn_app (goodIn_of _ (by decide +kernel)) ggL_isSo_L_many
set_option maxRecDepth 20000 in
theorem ggL_isSo_X3_freeHole : GoodIn wsL_isSo wsX3_freeHole := goodIn_r _ [101, 17, 102, 88, 89, 27, 90, 82, 38, 13, 39, 112, 113, 114, 115, 116, 117, 118, 119, 120, 121, 122, 123, 124, 125, 126, 127, 128, 129, 130] (by decide +kernel) (by decide +kernel)
set_option maxRecDepth 20000 in
theorem gL_isSo_X3_freeHole : GoodIn wsL_isSo (wsV RL 117 RX3 yX3_freeHole wsX3_freeHole) := goodIn_app (goodIn_of _ (by decide +kernel)) ggL_isSo_X3_freeHole
set_option maxRecDepth 20000 in
theorem ggL_isSo_X3_homeShare : GoodIn wsL_isSo wsX3_homeShare := goodIn_r _ [106, 17, 107, 66, 67, 27, 68, 69, 25, 26, 28, 29, 108, 109, 110, 111, 112, 113, 114, 115, 116, 117, 118, 119, 120, 121, 122, 123, 124, 125, 126, 127, 128, 129, 130] (by decide +kernel) (by decide +kernel)
set_option maxRecDepth 20000 in
theorem gL_isSo_X3_homeShare : GoodIn wsL_isSo (wsV RL 120 RX3 yX3_homeShare wsX3_homeShare) := goodIn_app (goodIn_of _ (by decide +kernel)) ggL_isSo_X3_homeShare
