set_option maxRecDepth 20000 in
theorem ggL_doves_L_low : GoodIn wsL_doves wsL_low := goodIn_r _ [5, 6] (by decide +kernel) (by decide +kernel)
set_option maxRecDepth 20000 in
theorem gL_doves_L_low : GoodIn wsL_doves (va_wsS RL 124 yL_low wsL_low) := goodIn_app (goodIn_of _ (by decide +kernel)) ggL_doves_L_low
set_option maxRecDepth 20000 in
theorem ggL_doves_L_owner : GoodIn wsL_doves wsL_owner := goodIn_r _ [9, 10, 11, 4, 12] (by decide +kernel) (by decide +kernel)
set_option maxRecDepth 20000 in
theorem gL_doves_L_owner : GoodIn wsL_doves (va_wsS RL 111 yL_owner wsL_owner) := goodIn_app (goodIn_of _ (by decide +kernel)) ggL_doves_L_owner
set_option maxRecDepth 20000 in
theorem ggL_doves_L_buy : GoodIn wsL_doves wsL_buy := goodIn_ca (goodIn_ca (goodIn_ca (goodIn_r _ [15, 16, 17, 18, 19, 20, 21, 22, 23, 24, 25, 26, 27, 28, 29, 30, 31, 32, 33, 34, 35, 36, 37, 38, 39, 40, 41, 42, 43, 44, 45, 46, 47, 48, 49, 50, 51, 52, 53, 54, 55, 56, 57, 58, 59, 60, 61, 62, 63, 64, 65, 66, 67, 68, 69, 70, 71, 72, 73, 74, 75, 76, 77, 78, 79, 80, 81, 82, 83, 84, 85, 86, 87, 88, 89, 90, 155, 156, 157, 158, 159, 160, 161, 162, 163, 164, 165, 166, 167, 168, 169, 170, 171, 172, 173, 174, 175, 176] (by decide +kernel) (by decide +kernel)) (goodIn_sub (fun _ h => List.mem_cons_of_mem _ (List.mem_append_left _ (List.mem_append_left _ (List.mem_append_right _ h)))) (by decide +kernel))) (goodIn_sub (fun _ h => List.mem_cons_of_mem _ (List.mem_append_left _ (List.mem_append_right _ h))) (by decide +kernel))) (goodIn_sub (fun _ h => List.mem_cons_of_mem _ (List.mem_append_right _ h)) (by decide +kernel))
set_option maxRecDepth 20000 in
theorem gL_doves_L_buy : GoodIn wsL_doves (va_wsS RL 128 yL_buy wsL_buy) := goodIn_app (goodIn_of _ (by decide +kernel)) ggL_doves_L_buy
set_option maxRecDepth 20000 in
theorem ggL_doves_L_is : GoodIn wsL_doves wsL_is := goodIn_r _ [12] (by decide +kernel) (by decide +kernel)
set_option maxRecDepth 20000 in
theorem gL_doves_L_is : GoodIn wsL_doves (va_wsS RL 63 yL_is wsL_is) := goodIn_app (goodIn_of _ (by decide +kernel)) ggL_doves_L_is
set_option maxRecDepth 20000 in
theorem ggL_doves_L_sell : GoodIn wsL_doves wsL_sell := goodIn_ca (goodIn_r _ [93, 16, 94, 95, 96, 22, 97, 28, 98, 99, 100, 101, 32, 33, 102, 48, 49, 40, 50, 51, 56, 57, 58, 59, 60, 61, 62, 63, 64, 65, 66, 67, 68, 69, 42, 70, 71, 72, 73, 74, 75, 76, 77, 78, 79, 80, 81, 82, 83, 84, 85, 86, 103, 104, 105, 106, 35, 36, 47, 155, 156, 157, 158, 159, 160, 161, 162, 163, 164, 165, 166, 167, 168, 169, 170, 171, 172, 173, 174, 175, 176] (by decide +kernel) (by decide +kernel)) (goodIn_sub (fun _ h => List.mem_cons_of_mem _ (List.mem_append_right _ h)) (by decide +kernel))
set_option maxRecDepth 20000 in
theorem gL_doves_L_sell : GoodIn wsL_doves (va_wsS RL 130 yL_sell wsL_sell) := goodIn_app (goodIn_of _ (by decide +kernel)) ggL_doves_L_sell
