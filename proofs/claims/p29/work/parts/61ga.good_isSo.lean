set_option maxRecDepth 20000 in
theorem ggL_isSo_L_is : GoodIn wsL_isSo wsL_is := goodIn_r _ [4] (by decide +kernel) (by decide +kernel)
set_option maxRecDepth 20000 in
theorem gL_isSo_L_is : GoodIn wsL_isSo (va_wsS RL 63 yL_is wsL_is) := goodIn_app (goodIn_of _ (by decide +kernel)) ggL_isSo_L_is
set_option maxRecDepth 20000 in
theorem ggL_isSo_L_dove : GoodIn wsL_isSo wsL_dove := goodIn_ca (goodIn_ca (goodIn_r _ [7, 8, 9, 10, 11, 12, 13, 14, 15, 16, 17, 18, 19, 20, 21, 22, 23, 24, 25, 26, 27, 28, 29, 112, 113, 114, 115, 116, 117, 118, 119, 120, 121, 122, 123, 124, 125, 126, 127, 128, 129, 130] (by decide +kernel) (by decide +kernel)) (goodIn_sub (fun _ h => List.mem_cons_of_mem _ (List.mem_append_left _ (List.mem_append_right _ h))) (by decide +kernel))) (goodIn_sub (fun _ h => List.mem_cons_of_mem _ (List.mem_append_right _ h)) (by decide +kernel))
set_option maxRecDepth 20000 in
theorem gL_isSo_L_dove : GoodIn wsL_isSo (va_wsS RL 109 yL_dove wsL_dove) := goodIn_app (goodIn_of _ (by decide +kernel)) ggL_isSo_L_dove
set_option maxRecDepth 20000 in
theorem ggL_isSo_X3_dove : GoodIn wsL_isSo wsX3_dove := goodIn_ca (goodIn_ca (goodIn_r _ [14, 15, 16, 17, 18, 19, 20, 13, 21, 22, 23, 24, 25, 26, 27, 28, 29, 112, 113, 114, 115, 116, 117, 118, 119, 120, 121, 122, 123, 124, 125, 126, 127, 128, 129, 130] (by decide +kernel) (by decide +kernel)) (goodIn_sub (fun _ h => List.mem_cons_of_mem _ (List.mem_append_left _ (List.mem_append_right _ h))) (by decide +kernel))) (goodIn_sub (fun _ h => List.mem_cons_of_mem _ (List.mem_append_right _ h)) (by decide +kernel))
set_option maxRecDepth 20000 in
theorem gL_isSo_X3_dove : GoodIn wsL_isSo (wsV RL 47 RX3 yX3_dove wsX3_dove) := goodIn_app (goodIn_of _ (by decide +kernel)) ggL_isSo_X3_dove
set_option maxRecDepth 20000 in
theorem ggL_isSo_X3_hole : GoodIn wsL_isSo wsX3_hole := goodIn_ca (goodIn_ca (goodIn_r _ [33, 15, 16, 17, 34, 35, 13, 36, 22, 23, 37, 38, 39, 112, 113, 114, 115, 116, 117, 118, 119, 120, 121, 122, 123, 124, 125, 126, 127, 128, 129, 130] (by decide +kernel) (by decide +kernel)) (goodIn_sub (fun _ h => List.mem_cons_of_mem _ (List.mem_append_left _ (List.mem_append_right _ h))) (by decide +kernel))) (goodIn_sub (fun _ h => List.mem_cons_of_mem _ (List.mem_append_right _ h)) (by decide +kernel))
set_option maxRecDepth 20000 in
theorem gL_isSo_X3_hole : GoodIn wsL_isSo (wsV RL 50 RX3 yX3_hole wsX3_hole) := goodIn_app (goodIn_of _ (by decide +kernel)) ggL_isSo_X3_hole
set_option maxRecDepth 20000 in
theorem ggL_isSo_L_sits : GoodIn wsL_isSo wsL_sits := goodIn_r _ [42, 1, 2, 3, 4] (by decide +kernel) (by decide +kernel)
set_option maxRecDepth 20000 in
theorem gL_isSo_L_sits : GoodIn wsL_isSo (va_wsS RL 74 yL_sits wsL_sits) := goodIn_app (goodIn_of _ (by decide +kernel)) ggL_isSo_L_sits
set_option maxRecDepth 20000 in
theorem ggL_isSo_L_owner : GoodIn wsL_isSo wsL_owner := goodIn_r _ [45, 1, 2, 3, 4] (by decide +kernel) (by decide +kernel)
set_option maxRecDepth 20000 in
theorem gL_isSo_L_owner : GoodIn wsL_isSo (va_wsS RL 111 yL_owner wsL_owner) := goodIn_app (goodIn_of _ (by decide +kernel)) ggL_isSo_L_owner
