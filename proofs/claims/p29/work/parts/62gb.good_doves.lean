set_option maxRecDepth 20000 in
theorem ggL_doves_L_mate : GoodIn wsL_doves wsL_mate := goodIn_ca (goodIn_ca (goodIn_r _ [109, 16, 18, 110, 111, 112, 22, 113, 26, 27, 28, 98, 99, 100, 101, 32, 33, 102, 48, 49, 40, 50, 51, 114, 115, 116, 117, 56, 57, 58, 59, 60, 61, 62, 63, 64, 65, 66, 67, 68, 69, 42, 70, 71, 72, 73, 74, 75, 76, 77, 78, 79, 80, 81, 82, 83, 84, 85, 86, 118, 119, 120, 121, 122, 123, 124, 125, 47, 155, 156, 157, 158, 159, 160, 161, 162, 163, 164, 165, 166, 167, 168, 169, 170, 171, 172, 173, 174, 175, 176] (by decide +kernel) (by decide +kernel)) (goodIn_sub (fun _ h => List.mem_cons_of_mem _ (List.mem_append_left _ (List.mem_append_right _ h))) (by decide +kernel))) (goodIn_sub (fun _ h => List.mem_cons_of_mem _ (List.mem_append_right _ h)) (by decide +kernel))
set_option maxRecDepth 20000 in
theorem gL_doves_L_mate : GoodIn wsL_doves (va_wsS RL 133 yL_mate wsL_mate) := goodIn_app (goodIn_of _ (by decide +kernel)) ggL_doves_L_mate
set_option maxRecDepth 20000 in
theorem ggL_doves_L_sits : GoodIn wsL_doves wsL_sits := goodIn_r _ [128, 10, 11, 4, 12] (by decide +kernel) (by decide +kernel)
set_option maxRecDepth 20000 in
theorem gL_doves_L_sits : GoodIn wsL_doves (va_wsS RL 74 yL_sits wsL_sits) := goodIn_app (goodIn_of _ (by decide +kernel)) ggL_doves_L_sits
set_option maxRecDepth 20000 in
theorem ggL_doves_L_shut : GoodIn wsL_doves wsL_shut := goodIn_ca (goodIn_ca (goodIn_r _ [131, 16, 18, 132, 133, 134, 22, 135, 26, 27, 28, 29, 30, 31, 32, 33, 34, 35, 36, 136, 137, 138, 40, 139, 42, 52, 53, 54, 55, 56, 57, 58, 59, 60, 61, 62, 63, 64, 65, 51, 66, 67, 68, 69, 70, 71, 72, 73, 74, 75, 76, 77, 78, 79, 80, 81, 82, 83, 84, 85, 86, 140, 141, 142, 143, 144, 145, 146, 147, 155, 156, 157, 158, 159, 160, 161, 162, 163, 164, 165, 166, 167, 168, 169, 170, 171, 172, 173, 174, 175, 176] (by decide +kernel) (by decide +kernel)) (goodIn_sub (fun _ h => List.mem_cons_of_mem _ (List.mem_append_left _ (List.mem_append_right _ h))) (by decide +kernel))) (goodIn_sub (fun _ h => List.mem_cons_of_mem _ (List.mem_append_right _ h)) (by decide +kernel))
set_option maxRecDepth 20000 in
theorem gL_doves_L_shut : GoodIn wsL_doves (va_wsS RL 135 yL_shut wsL_shut) := goodIn_app (goodIn_of _ (by decide +kernel)) ggL_doves_L_shut
set_option maxRecDepth 20000 in
theorem ggL_doves_L_open : GoodIn wsL_doves wsL_open := goodIn_ca (goodIn_r _ [150, 16, 151, 152, 153, 22, 154, 28, 29, 30, 31, 32, 33, 34, 35, 36, 56, 57, 58, 59, 60, 61, 62, 63, 64, 40, 65, 51, 66, 67, 68, 69, 42, 70, 71, 72, 73, 74, 75, 76, 77, 78, 79, 80, 81, 82, 83, 84, 85, 86, 140, 141, 142, 143, 144, 145, 146, 147, 52, 53, 54, 55, 155, 156, 157, 158, 159, 160, 161, 162, 163, 164, 165, 166, 167, 168, 169, 170, 171, 172, 173, 174, 175, 176] (by decide +kernel) (by decide +kernel)) (goodIn_sub (fun _ h => List.mem_cons_of_mem _ (List.mem_append_right _ h)) (by decide +kernel))
set_option maxRecDepth 20000 in
theorem gL_doves_L_open : GoodIn wsL_doves (va_wsS RL 137 yL_open wsL_open) := goodIn_app (goodIn_of _ (by decide +kernel)) ggL_doves_L_open
