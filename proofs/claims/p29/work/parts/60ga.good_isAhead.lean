set_option maxRecDepth 20000 in
theorem ggL_isAhead_L_is : GoodIn wsL_isAhead wsL_is := goodIn_r _ [5] (by decide +kernel) (by decide +kernel)
set_option maxRecDepth 20000 in
theorem gL_isAhead_L_is : GoodIn wsL_isAhead (va_wsS RL 63 yL_is wsL_is) := goodIn_app (goodIn_of _ (by decide +kernel)) ggL_isAhead_L_is
set_option maxRecDepth 20000 in
theorem ggL_isAhead_L_whyNot : GoodIn wsL_isAhead wsL_whyNot := goodIn_ca (goodIn_ca (goodIn_r _ [8, 9, 10, 11, 12, 13, 14, 15, 16, 17, 18, 19, 20, 21, 22, 23, 24, 25, 26, 27, 28, 29, 30, 31, 32, 33, 34, 35, 36, 37, 38, 165, 166, 167, 168, 169, 170, 171, 172, 173, 174, 175, 176, 177, 178, 179, 180, 181, 182, 183] (by decide +kernel) (by decide +kernel)) (goodIn_sub (fun _ h => List.mem_cons_of_mem _ (List.mem_append_left _ (List.mem_append_right _ h))) (by decide +kernel))) (goodIn_sub (fun _ h => List.mem_cons_of_mem _ (List.mem_append_right _ h)) (by decide +kernel))
set_option maxRecDepth 20000 in
theorem gL_isAhead_L_whyNot : GoodIn wsL_isAhead (va_wsS RL 88 yL_whyNot wsL_whyNot) := goodIn_app (goodIn_of _ (by decide +kernel)) ggL_isAhead_L_whyNot
set_option maxRecDepth 20000 in
theorem ggL_isAhead_L_ifHome : GoodIn wsL_isAhead wsL_ifHome := goodIn_ca (goodIn_ca (goodIn_r _ [41, 9, 10, 42, 43, 44, 14, 45, 32, 33, 17, 18, 19, 20, 21, 22, 16, 23, 24, 25, 26, 27, 28, 29, 30, 31, 46, 47, 48, 49, 50, 34, 35, 36, 37, 38, 51, 52, 53, 54, 55, 56, 57, 58, 59, 60, 61, 62, 63, 64, 65, 66, 67, 68, 69, 70, 71, 72, 73, 74, 75, 76, 77, 78, 79, 80, 81, 82, 83, 84, 85, 86, 87, 88, 89, 90, 91, 92, 93, 94, 95, 96, 97, 98, 99, 100, 101, 102, 103, 104, 105, 106, 107, 108, 109, 110, 111, 112, 113, 114, 115, 116, 117, 118, 119, 120, 121, 122, 165, 166, 167, 168, 169, 170, 171, 172, 173, 174, 175, 176, 177, 178, 179, 180, 181, 182, 183, 184, 185, 186] (by decide +kernel) (by decide +kernel)) (goodIn_sub (fun _ h => List.mem_cons_of_mem _ (List.mem_append_right _ h)) (by decide +kernel))) (goodIn_sub (fun _ h => List.mem_cons_of_mem _ (List.mem_append_left _ (List.mem_append_right _ h))) (by decide +kernel))
set_option maxRecDepth 20000 in
theorem gL_isAhead_L_ifHome : GoodIn wsL_isAhead (va_wsS RL 91 yL_ifHome wsL_ifHome) := goodIn_app (goodIn_of _ (by decide +kernel)) ggL_isAhead_L_ifHome
set_option maxRecDepth 20000 in
theorem ggL_isAhead_L_copy : GoodIn wsL_isAhead wsL_copy := goodIn_r _ [125] (by decide +kernel) (by decide +kernel)
set_option maxRecDepth 20000 in
theorem gL_isAhead_L_copy : GoodIn wsL_isAhead (va_wsS RL 94 yL_copy wsL_copy) := goodIn_app (goodIn_of _ (by decide +kernel)) ggL_isAhead_L_copy
set_option maxRecDepth 20000 in
theorem ggL_isAhead_L_comes : GoodIn wsL_isAhead wsL_comes := goodIn_r _ [128, 129, 130, 4, 131, 2, 3, 5, 132, 133, 134, 135, 136, 137, 138, 139, 140, 141, 142, 143, 144] (by decide +kernel) (by decide +kernel)
set_option maxRecDepth 20000 in
theorem gL_isAhead_L_comes : GoodIn wsL_isAhead (va_wsS RL 98 yL_comes wsL_comes) := goodIn_app (goodIn_of _ (by decide +kernel)) ggL_isAhead_L_comes
