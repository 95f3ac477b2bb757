set_option maxRecDepth 20000 in
theorem ggL_evening_L_low : GoodIn wsL_evening wsL_low := goodIn_r _ [4, 5] (by decide +kernel) (by decide +kernel)
set_option maxRecDepth 20000 in
theorem gL_evening_L_low : GoodIn wsL_evening (va_wsS RL 124 yL_low wsL_low) := goodIn_app (goodIn_of _ (by decide +kernel)) ggL_evening_L_low
set_option maxRecDepth 20000 in
theorem ggL_evening_L_set : GoodIn wsL_evening wsL_set := goodIn_ca (goodIn_ca (goodIn_r _ [8, 9, 10, 11, 12, 13, 14, 15, 16, 17, 18, 19, 20, 21, 22, 23, 24, 25, 26, 27, 28, 29, 30, 31, 32, 33, 34, 35, 36, 37, 38, 39, 40, 41, 42, 43, 44, 45, 46, 47, 48, 49, 50, 51, 52, 53, 54, 156, 157, 158, 159, 160, 161, 162, 163, 164, 165, 166, 167, 168, 169, 170, 171, 172, 173, 174, 175, 176, 177] (by decide +kernel) (by decide +kernel)) (goodIn_sub (fun _ h => List.mem_cons_of_mem _ (List.mem_append_left _ (List.mem_append_left _ (List.mem_append_right _ h)))) (by decide +kernel))) (goodIn_sub (fun _ h => List.mem_cons_of_mem _ (List.mem_append_left _ (List.mem_append_right _ h))) (by decide +kernel))
set_option maxRecDepth 20000 in
theorem gL_evening_L_set : GoodIn wsL_evening (va_wsS RL 139 yL_set wsL_set) := goodIn_app (goodIn_of _ (by decide +kernel)) ggL_evening_L_set
set_option maxRecDepth 20000 in
theorem ggL_evening_L_many : GoodIn wsL_evening wsL_many := goodIn_r _ [57, 58, 59, 3, 60] (by decide +kernel) (by decide +kernel)
set_option maxRecDepth 20000 in
theorem gL_evening_L_many : GoodIn wsL_evening (va_wsS RL 102 yL_many wsL_many) := goodIn_app (goodIn_of _ (by decide +kernel)) ggL_evening_L_many
set_option maxRecDepth 20000 in
theorem ggL_evening_L_is : GoodIn wsL_evening wsL_is := goodIn_r _ [60] (by decide +kernel) (by decide +kernel)
set_option maxRecDepth 20000 in
theorem gL_evening_L_is : GoodIn wsL_evening (va_wsS RL 63 yL_is wsL_is) := goodIn_app (goodIn_of _ (by decide +kernel)) ggL_evening_L_is
set_option maxRecDepth 20000 in
theorem ggL_evening_X3_dawn : GoodIn wsL_evening wsX3_dawn := goodIn_r _ [64, 20, 21, 22, 23, 14, 24, 25, 26, 27, 28, 29, 30, 31, 32, 33, 34, 35, 36, 37, 38, 39, 40, 41, 42, 43, 44, 45, 46, 47, 48, 49, 50, 51, 52, 53, 54, 65, 66, 67, 68, 69, 70, 71, 72, 73, 74, 75, 76, 156, 157, 158, 159, 160, 161, 162, 163, 164, 165, 166, 167, 168, 169, 170, 171, 172, 173, 174, 175, 176, 177] (by decide +kernel) (by decide +kernel)
set_option maxRecDepth 20000 in
theorem gL_evening_X3_dawn : GoodIn wsL_evening (wsV RL 141 RX3 yX3_dawn wsX3_dawn) := goodIn_app (goodIn_of _ (by decide +kernel)) ggL_evening_X3_dawn
set_option maxRecDepth 20000 in
theorem ggL_evening_L_home : GoodIn wsL_evening wsL_home := goodIn_ca (goodIn_ca (goodIn_ca (goodIn_r _ [79, 9, 10, 80, 81, 82, 83, 14, 84, 85, 86, 20, 87, 88, 89, 90, 16, 17, 91, 70, 71, 30, 72, 32, 92, 93, 94, 18, 19, 95, 96, 97, 98, 43, 21, 22, 23, 24, 25, 26, 27, 28, 29, 31, 33, 34, 35, 36, 37, 38, 39, 40, 41, 42, 44, 45, 46, 47, 48, 49, 50, 51, 52, 53, 54, 99, 100, 101, 102, 103, 104, 105, 106, 107, 108, 109, 110, 111, 112, 69, 113, 114, 115, 116, 117, 118, 119, 120, 121, 122, 123, 124, 125, 126, 127, 128, 129, 130, 131, 132, 133, 134, 135, 136, 156, 157, 158, 159, 160, 161, 162, 163, 164, 165, 166, 167, 168, 169, 170, 171, 172, 173, 174, 175, 176, 177] (by decide +kernel) (by decide +kernel)) (goodIn_sub (fun _ h => List.mem_cons_of_mem _ (List.mem_append_right _ h)) (by decide +kernel))) (goodIn_sub (fun _ h => List.mem_cons_of_mem _ (List.mem_append_left _ (List.mem_append_left _ (List.mem_append_right _ h)))) (by decide +kernel))) (goodIn_sub (fun _ h => List.mem_cons_of_mem _ (List.mem_append_left _ (List.mem_append_right _ h))) (by decide +kernel))
set_option maxRecDepth 20000 in
theorem gL_evening_L_home : GoodIn wsL_evening (va_wsS RL 144 yL_home wsL_home) := goodIn_app (goodIn_of _ (by decide +kernel)) ggL_evening_L_home
set_option maxRecDepth 20000 in
theorem ggL_evening_L_comes : GoodIn wsL_evening wsL_comes := goodIn_r _ [139, 140, 141, 3, 142, 58, 59, 60, 143, 144, 145, 146, 147, 148, 149, 150, 151, 152, 153, 154, 155] (by decide +kernel) (by decide +kernel)
set_option maxRecDepth 20000 in
theorem gL_evening_L_comes : GoodIn wsL_evening (va_wsS RL 98 yL_comes wsL_comes) := goodIn_app (goodIn_of _ (by decide +kernel)) ggL_evening_L_comes
