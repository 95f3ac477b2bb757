set_option maxRecDepth 20000 in
theorem ggL_buy_X3_buy : GoodIn wsL_buy wsX3_buy := goodIn_ca (goodIn_ca (goodIn_ca (goodIn_r _ [8, 9, 10, 11, 12, 13, 14, 15, 7, 16, 17, 18, 19, 20, 21, 22, 23, 24, 25, 26, 27, 28, 29, 30, 31, 32, 33, 34, 35, 36, 37, 38, 39, 40, 41, 42, 43, 44, 45, 46, 47, 48, 49, 50, 51, 52, 53, 54, 55, 56, 57, 58, 59, 60, 61, 62, 63, 64, 65, 66, 67, 68, 69, 70, 71, 72, 73, 74, 75, 76, 77, 78, 79, 80, 81, 82, 83, 84, 85, 86, 87, 88, 89, 90, 91, 92, 93, 94, 95, 96, 97] (by decide +kernel) (by decide +kernel)) (goodIn_sub (fun _ h => List.mem_cons_of_mem _ (List.mem_append_left _ (List.mem_append_left _ (List.mem_append_right _ h)))) (by decide +kernel))) (goodIn_sub (fun _ h => List.mem_cons_of_mem _ (List.mem_append_left _ (List.mem_append_right _ h))) (by decide +kernel))) (goodIn_sub (fun _ h => List.mem_cons_of_mem _ (List.mem_append_right _ h)) (by decide +kernel))
set_option maxRecDepth 20000 in
theorem gL_buy_X3_buy : GoodIn wsL_buy (wsV RL 9 RX3 yX3_buy wsX3_buy) := goodIn_app (goodIn_of _ (by decide +kernel)) ggL_buy_X3_buy
theorem dL_buy_0 : decode cL_buy 0 = .ok (.aload_n 0, 1) := by decide +kernel
theorem dL_buy_1 : decode cL_buy 1 = .ok (.iload_n 1, 1) := by decide +kernel
theorem dL_buy_2 : decode cL_buy 2 = .ok (.iload_n 2, 1) := by decide +kernel
theorem dL_buy_3 : decode cL_buy 3 = .ok (.invokevirtual 9, 3) := by decide +kernel
theorem dL_buy_6 : decode cL_buy 6 = .ok (.istore_n 3, 1) := by decide +kernel
theorem dL_buy_7 : decode cL_buy 7 = .ok (.goto 18, 3) := by decide +kernel
theorem dL_buy_10 : decode cL_buy 10 = .ok (.astore 4, 2) := by decide +kernel
theorem dL_buy_12 : decode cL_buy 12 = .ok (.bipush (-31), 2) := by decide +kernel
theorem dL_buy_14 : decode cL_buy 14 = .ok (.ireturn, 1) := by decide +kernel
theorem dL_buy_15 : decode cL_buy 15 = .ok (.astore 4, 2) := by decide +kernel
theorem dL_buy_17 : decode cL_buy 17 = .ok (.bipush (-32), 2) := by decide +kernel
theorem dL_buy_19 : decode cL_buy 19 = .ok (.ireturn, 1) := by decide +kernel
theorem dL_buy_20 : decode cL_buy 20 = .ok (.astore 4, 2) := by decide +kernel
theorem dL_buy_22 : decode cL_buy 22 = .ok (.bipush (-33), 2) := by decide +kernel
theorem dL_buy_24 : decode cL_buy 24 = .ok (.ireturn, 1) := by decide +kernel
theorem dL_buy_25 : decode cL_buy 25 = .ok (.iload_n 3, 1) := by decide +kernel
theorem dL_buy_26 : decode cL_buy 26 = .ok (.ireturn, 1) := by decide +kernel
set_option maxRecDepth 20000 in
theorem ggL_sell_X3_sell : GoodIn wsL_sell wsX3_sell := goodIn_ca (goodIn_r _ [6, 7, 8, 9, 10, 5, 11, 12, 13, 14, 15, 16, 17, 18, 19, 20, 21, 22, 23, 24, 25, 26, 27, 28, 29, 30, 31, 32, 33, 34, 35, 36, 37, 38, 39, 40, 41, 42, 43, 44, 45, 46, 47, 48, 49, 50, 51, 52, 53, 54, 55, 56, 57, 58, 59, 60, 61, 62, 63, 64, 65, 66, 67, 68, 69, 70, 71, 72, 73, 74, 75, 76, 77, 78, 79, 80] (by decide +kernel) (by decide +kernel)) (goodIn_sub (fun _ h => List.mem_cons_of_mem _ (List.mem_append_right _ h)) (by decide +kernel))
set_option maxRecDepth 20000 in
theorem gL_sell_X3_sell : GoodIn wsL_sell (wsV RL 21 RX3 yX3_sell wsX3_sell) := goodIn_app (goodIn_of _ (by decide +kernel)) ggL_sell_X3_sell
theorem dL_sell_0 : decode cL_sell 0 = .ok (.aload_n 0, 1) := by decide +kernel
theorem dL_sell_1 : decode cL_sell 1 = .ok (.iload_n 1, 1) := by decide +kernel
theorem dL_sell_2 : decode cL_sell 2 = .ok (.invokevirtual 21, 3) := by decide +kernel
theorem dL_sell_5 : decode cL_sell 5 = .ok (.istore_n 2, 1) := by decide +kernel
theorem dL_sell_6 : decode cL_sell 6 = .ok (.goto 7, 3) := by decide +kernel
theorem dL_sell_9 : decode cL_sell 9 = .ok (.astore_n 3, 1) := by decide +kernel
theorem dL_sell_10 : decode cL_sell 10 = .ok (.bipush (-31), 2) := by decide +kernel
theorem dL_sell_12 : decode cL_sell 12 = .ok (.ireturn, 1) := by decide +kernel
theorem dL_sell_13 : decode cL_sell 13 = .ok (.iload_n 2, 1) := by decide +kernel
theorem dL_sell_14 : decode cL_sell 14 = .ok (.ireturn, 1) := by decide +kernel
set_option maxRecDepth 20000 in
theorem ggL_mate_X3_mate : GoodIn wsL_mate wsX3_mate := goodIn_ca (goodIn_ca (goodIn_r _ [7, 8, 9, 10, 11, 12, 13, 6, 14, 15, 16, 17, 18, 19, 20, 21, 22, 23, 24, 25, 26, 27, 28, 29, 30, 31, 32, 33, 34, 35, 36, 37, 38, 39, 40, 41, 42, 43, 44, 45, 46, 47, 48, 49, 50, 51, 52, 53, 54, 55, 56, 57, 58, 59, 60, 61, 62, 63, 64, 65, 66, 67, 68, 69, 70, 71, 72, 73, 74, 75, 76, 77, 78, 79, 80, 81, 82, 83, 84, 85, 86, 87, 88, 89] (by decide +kernel) (by decide +kernel)) (goodIn_sub (fun _ h => List.mem_cons_of_mem _ (List.mem_append_left _ (List.mem_append_right _ h))) (by decide +kernel))) (goodIn_sub (fun _ h => List.mem_cons_of_mem _ (List.mem_append_right _ h)) (by decide +kernel))
set_option maxRecDepth 20000 in
theorem gL_mate_X3_mate : GoodIn wsL_mate (wsV RL 25 RX3 yX3_mate wsX3_mate) := goodIn_app (goodIn_of _ (by decide +kernel)) ggL_mate_X3_mate
theorem dL_mate_0 : decode cL_mate 0 = .ok (.aload_n 0, 1) := by decide +kernel
theorem dL_mate_1 : decode cL_mate 1 = .ok (.iload_n 1, 1) := by decide +kernel
theorem dL_mate_2 : decode cL_mate 2 = .ok (.iload_n 2, 1) := by decide +kernel
theorem dL_mate_3 : decode cL_mate 3 = .ok (.invokevirtual 25, 3) := by decide +kernel
theorem dL_mate_6 : decode cL_mate 6 = .ok (.istore_n 3, 1) := by decide +kernel
theorem dL_mate_7 : decode cL_mate 7 = .ok (.goto 13, 3) := by decide +kernel
theorem dL_mate_10 : decode cL_mate 10 = .ok (.astore 4, 2) := by decide +kernel
theorem dL_mate_12 : decode cL_mate 12 = .ok (.bipush (-31), 2) := by decide +kernel
theorem dL_mate_14 : decode cL_mate 14 = .ok (.ireturn, 1) := by decide +kernel
theorem dL_mate_15 : decode cL_mate 15 = .ok (.astore 4, 2) := by decide +kernel
theorem dL_mate_17 : decode cL_mate 17 = .ok (.bipush (-33), 2) := by decide +kernel
theorem dL_mate_19 : decode cL_mate 19 = .ok (.ireturn, 1) := by decide +kernel
theorem dL_mate_20 : decode cL_mate 20 = .ok (.iload_n 3, 1) := by decide +kernel
theorem dL_mate_21 : decode cL_mate 21 = .ok (.ireturn, 1) := by decide +kernel
set_option maxRecDepth 20000 in
theorem ggL_shut_X3_shut : GoodIn wsL_shut wsX3_shut := goodIn_ca (goodIn_ca (goodIn_r _ [7, 8, 9, 10, 11, 12, 6, 13, 14, 15, 16, 17, 18, 19, 20, 21, 22, 23, 24, 25, 26, 27, 28, 29, 30, 31, 32, 33, 34, 35, 36, 37, 38, 39, 40, 41, 42, 43, 44, 45, 46, 47, 48, 49, 50, 51, 52, 53, 54, 55, 56, 57, 58, 59, 60, 61, 62, 63, 64, 65, 66, 67, 68, 69, 70, 71, 72, 73, 74, 75, 76, 77, 78, 79, 80, 81, 82, 83, 84, 85, 86, 87, 88, 89, 90] (by decide +kernel) (by decide +kernel)) (goodIn_sub (fun _ h => List.mem_cons_of_mem _ (List.mem_append_left _ (List.mem_append_right _ h))) (by decide +kernel))) (goodIn_sub (fun _ h => List.mem_cons_of_mem _ (List.mem_append_right _ h)) (by decide +kernel))
set_option maxRecDepth 20000 in
theorem gL_shut_X3_shut : GoodIn wsL_shut (wsV RL 28 RX3 yX3_shut wsX3_shut) := goodIn_app (goodIn_of _ (by decide +kernel)) ggL_shut_X3_shut
theorem dL_shut_0 : decode cL_shut 0 = .ok (.aload_n 0, 1) := by decide +kernel
theorem dL_shut_1 : decode cL_shut 1 = .ok (.iload_n 1, 1) := by decide +kernel
theorem dL_shut_2 : decode cL_shut 2 = .ok (.invokevirtual 28, 3) := by decide +kernel
theorem dL_shut_5 : decode cL_shut 5 = .ok (.istore_n 2, 1) := by decide +kernel
theorem dL_shut_6 : decode cL_shut 6 = .ok (.goto 11, 3) := by decide +kernel
theorem dL_shut_9 : decode cL_shut 9 = .ok (.astore_n 3, 1) := by decide +kernel
theorem dL_shut_10 : decode cL_shut 10 = .ok (.bipush (-31), 2) := by decide +kernel
theorem dL_shut_12 : decode cL_shut 12 = .ok (.ireturn, 1) := by decide +kernel
theorem dL_shut_13 : decode cL_shut 13 = .ok (.astore_n 3, 1) := by decide +kernel
theorem dL_shut_14 : decode cL_shut 14 = .ok (.bipush (-33), 2) := by decide +kernel
theorem dL_shut_16 : decode cL_shut 16 = .ok (.ireturn, 1) := by decide +kernel
theorem dL_shut_17 : decode cL_shut 17 = .ok (.iload_n 2, 1) := by decide +kernel
theorem dL_shut_18 : decode cL_shut 18 = .ok (.ireturn, 1) := by decide +kernel
set_option maxRecDepth 20000 in
theorem ggL_open_X3_open : GoodIn wsL_open wsX3_open := goodIn_ca (goodIn_r _ [6, 7, 8, 9, 5, 10, 11, 12, 13, 14, 15, 16, 17, 18, 19, 20, 21, 22, 23, 24, 25, 26, 27, 28, 29, 30, 31, 32, 33, 34, 35, 36, 37, 38, 39, 40, 41, 42, 43, 44, 45, 46, 47, 48, 49, 50, 51, 52, 53, 54, 55, 56, 57, 58, 59, 60, 61, 62, 63, 64, 65, 66, 67, 68, 69, 70, 71, 72, 73, 74, 75, 76, 77, 78, 79, 80, 81, 82, 83] (by decide +kernel) (by decide +kernel)) (goodIn_sub (fun _ h => List.mem_cons_of_mem _ (List.mem_append_right _ h)) (by decide +kernel))
set_option maxRecDepth 20000 in
theorem gL_open_X3_open : GoodIn wsL_open (wsV RL 31 RX3 yX3_open wsX3_open) := goodIn_app (goodIn_of _ (by decide +kernel)) ggL_open_X3_open
theorem dL_open_0 : decode cL_open 0 = .ok (.aload_n 0, 1) := by decide +kernel
theorem dL_open_1 : decode cL_open 1 = .ok (.iload_n 1, 1) := by decide +kernel
theorem dL_open_2 : decode cL_open 2 = .ok (.invokevirtual 31, 3) := by decide +kernel
theorem dL_open_5 : decode cL_open 5 = .ok (.istore_n 2, 1) := by decide +kernel
theorem dL_open_6 : decode cL_open 6 = .ok (.goto 7, 3) := by decide +kernel
theorem dL_open_9 : decode cL_open 9 = .ok (.astore_n 3, 1) := by decide +kernel
theorem dL_open_10 : decode cL_open 10 = .ok (.bipush (-31), 2) := by decide +kernel
theorem dL_open_12 : decode cL_open 12 = .ok (.ireturn, 1) := by decide +kernel
theorem dL_open_13 : decode cL_open 13 = .ok (.iload_n 2, 1) := by decide +kernel
theorem dL_open_14 : decode cL_open 14 = .ok (.ireturn, 1) := by decide +kernel
set_option maxRecDepth 20000 in
theorem ggL_set_X3_set : GoodIn wsL_set wsX3_set := goodIn_ca (goodIn_ca (goodIn_r _ [7, 8, 9, 10, 11, 12, 13, 14, 15, 6, 16, 17, 18, 19, 20, 21, 22, 23, 24, 25, 26, 27, 28, 29, 30, 31, 32, 33, 34, 35, 36, 37, 38, 39, 40, 41, 42, 43, 44, 45, 46, 47, 48, 49, 50, 51, 52, 53, 54, 55, 56, 57, 58, 59, 60, 61, 62, 63, 64, 65, 66, 67, 68] (by decide +kernel) (by decide +kernel)) (goodIn_sub (fun _ h => List.mem_cons_of_mem _ (List.mem_append_left _ (List.mem_append_right _ h))) (by decide +kernel))) (goodIn_sub (fun _ h => List.mem_cons_of_mem _ (List.mem_append_right _ h)) (by decide +kernel))
set_option maxRecDepth 20000 in
theorem gL_set_X3_set : GoodIn wsL_set (wsV RL 34 RX3 yX3_set wsX3_set) := goodIn_app (goodIn_of _ (by decide +kernel)) ggL_set_X3_set
theorem dL_set_0 : decode cL_set 0 = .ok (.aload_n 0, 1) := by decide +kernel
theorem dL_set_1 : decode cL_set 1 = .ok (.iload_n 1, 1) := by decide +kernel
theorem dL_set_2 : decode cL_set 2 = .ok (.iload_n 2, 1) := by decide +kernel
theorem dL_set_3 : decode cL_set 3 = .ok (.invokevirtual 34, 3) := by decide +kernel
theorem dL_set_6 : decode cL_set 6 = .ok (.istore_n 3, 1) := by decide +kernel
theorem dL_set_7 : decode cL_set 7 = .ok (.goto 13, 3) := by decide +kernel
theorem dL_set_10 : decode cL_set 10 = .ok (.astore 4, 2) := by decide +kernel
theorem dL_set_12 : decode cL_set 12 = .ok (.bipush (-31), 2) := by decide +kernel
theorem dL_set_14 : decode cL_set 14 = .ok (.ireturn, 1) := by decide +kernel
theorem dL_set_15 : decode cL_set 15 = .ok (.astore 4, 2) := by decide +kernel
theorem dL_set_17 : decode cL_set 17 = .ok (.bipush (-32), 2) := by decide +kernel
theorem dL_set_19 : decode cL_set 19 = .ok (.ireturn, 1) := by decide +kernel
theorem dL_set_20 : decode cL_set 20 = .ok (.iload_n 3, 1) := by decide +kernel
theorem dL_set_21 : decode cL_set 21 = .ok (.ireturn, 1) := by decide +kernel
set_option maxRecDepth 20000 in
theorem ggL_home_X3_home : GoodIn wsL_home wsX3_home := goodIn_ca (goodIn_ca (goodIn_ca (goodIn_r _ [8, 9, 10, 11, 12, 13, 14, 7, 15, 16, 17, 18, 19, 20, 21, 22, 23, 24, 25, 26, 27, 28, 29, 30, 31, 32, 33, 34, 35, 36, 37, 38, 39, 40, 41, 42, 43, 44, 45, 46, 47, 48, 49, 50, 51, 52, 53, 54, 55, 56, 57, 58, 59, 60, 61, 62, 63, 64, 65, 66, 67, 68, 69, 70, 71, 72, 73, 74, 75, 76, 77, 78, 79, 80, 81, 82, 83, 84, 85, 86, 87, 88, 89, 90, 91, 92, 93, 94, 95, 96, 97, 98, 99, 100, 101, 102, 103, 104, 105, 106, 107, 108, 109, 110, 111, 112, 113, 114, 115, 116, 117, 118, 119, 120, 121, 122, 123, 124, 125] (by decide +kernel) (by decide +kernel)) (goodIn_sub (fun _ h => List.mem_cons_of_mem _ (List.mem_append_left _ (List.mem_append_left _ (List.mem_append_right _ h)))) (by decide +kernel))) (goodIn_sub (fun _ h => List.mem_cons_of_mem _ (List.mem_append_left _ (List.mem_append_right _ h))) (by decide +kernel))) (goodIn_sub (fun _ h => List.mem_cons_of_mem _ (List.mem_append_right _ h)) (by decide +kernel))
set_option maxRecDepth 20000 in
theorem gL_home_X3_home : GoodIn wsL_home (wsV RL 37 RX3 yX3_home wsX3_home) := goodIn_app (goodIn_of _ (by decide +kernel)) ggL_home_X3_home
theorem dL_home_0 : decode cL_home 0 = .ok (.aload_n 0, 1) := by decide +kernel
theorem dL_home_1 : decode cL_home 1 = .ok (.iload_n 1, 1) := by decide +kernel
theorem dL_home_2 : decode cL_home 2 = .ok (.iload_n 2, 1) := by decide +kernel
theorem dL_home_3 : decode cL_home 3 = .ok (.invokevirtual 37, 3) := by decide +kernel
theorem dL_home_6 : decode cL_home 6 = .ok (.istore_n 3, 1) := by decide +kernel
theorem dL_home_7 : decode cL_home 7 = .ok (.goto 18, 3) := by decide +kernel
theorem dL_home_10 : decode cL_home 10 = .ok (.astore 4, 2) := by decide +kernel
theorem dL_home_12 : decode cL_home 12 = .ok (.bipush (-31), 2) := by decide +kernel
theorem dL_home_14 : decode cL_home 14 = .ok (.ireturn, 1) := by decide +kernel
theorem dL_home_15 : decode cL_home 15 = .ok (.astore 4, 2) := by decide +kernel
theorem dL_home_17 : decode cL_home 17 = .ok (.bipush (-32), 2) := by decide +kernel
theorem dL_home_19 : decode cL_home 19 = .ok (.ireturn, 1) := by decide +kernel
theorem dL_home_20 : decode cL_home 20 = .ok (.astore 4, 2) := by decide +kernel
theorem dL_home_22 : decode cL_home 22 = .ok (.bipush (-33), 2) := by decide +kernel
theorem dL_home_24 : decode cL_home 24 = .ok (.ireturn, 1) := by decide +kernel
theorem dL_home_25 : decode cL_home 25 = .ok (.iload_n 3, 1) := by decide +kernel
theorem dL_home_26 : decode cL_home 26 = .ok (.ireturn, 1) := by decide +kernel
set_option maxRecDepth 20000 in
theorem ggL_undo_X3_undo : GoodIn wsL_undo wsX3_undo := goodIn_ca (goodIn_r _ [6, 7, 8, 9, 10, 11, 12, 13, 14, 15, 16, 17, 18, 19, 20, 21, 22, 23, 24, 25, 26, 27, 28, 29, 30, 31, 32, 33, 34, 35, 36, 37, 38, 39, 40, 41, 42, 43, 44, 45, 46, 47, 48, 49, 50, 51, 52, 53, 54, 55, 56, 57, 58, 59, 60, 61] (by decide +kernel) (by decide +kernel)) (goodIn_sub (fun _ h => List.mem_cons_of_mem _ (List.mem_append_right _ h)) (by decide +kernel))
set_option maxRecDepth 20000 in
theorem gL_undo_X3_undo : GoodIn wsL_undo (wsV RL 40 RX3 yX3_undo wsX3_undo) := goodIn_app (goodIn_of _ (by decide +kernel)) ggL_undo_X3_undo
theorem dL_undo_0 : decode cL_undo 0 = .ok (.aload_n 0, 1) := by decide +kernel
theorem dL_undo_1 : decode cL_undo 1 = .ok (.invokevirtual 40, 3) := by decide +kernel
theorem dL_undo_4 : decode cL_undo 4 = .ok (.istore_n 1, 1) := by decide +kernel
theorem dL_undo_5 : decode cL_undo 5 = .ok (.goto 7, 3) := by decide +kernel
theorem dL_undo_8 : decode cL_undo 8 = .ok (.astore_n 2, 1) := by decide +kernel
theorem dL_undo_9 : decode cL_undo 9 = .ok (.bipush (-33), 2) := by decide +kernel
theorem dL_undo_11 : decode cL_undo 11 = .ok (.ireturn, 1) := by decide +kernel
theorem dL_undo_12 : decode cL_undo 12 = .ok (.iload_n 1, 1) := by decide +kernel
theorem dL_undo_13 : decode cL_undo 13 = .ok (.ireturn, 1) := by decide +kernel
set_option maxRecDepth 20000 in
theorem ggL_restore_X3_restore : GoodIn wsL_restore wsX3_restore := goodIn_ca (goodIn_r _ [6, 7, 8, 9, 10, 11, 12, 13, 14, 5, 15, 16, 17, 18, 19, 20, 21, 22, 23, 24, 25, 26, 27, 28, 29, 30, 31, 32, 33, 34, 35, 36, 37, 38, 39, 40, 41, 42, 43, 44, 45, 46, 47, 48, 49, 50, 51, 52, 53, 54, 55, 56, 57, 58, 59, 60, 61, 62, 63, 64, 65, 66, 67] (by decide +kernel) (by decide +kernel)) (goodIn_sub (fun _ h => List.mem_cons_of_mem _ (List.mem_append_right _ h)) (by decide +kernel))
set_option maxRecDepth 20000 in
theorem gL_restore_X3_restore : GoodIn wsL_restore (wsV RL 44 RX3 yX3_restore wsX3_restore) := goodIn_app (goodIn_of _ (by decide +kernel)) ggL_restore_X3_restore
theorem dL_restore_0 : decode cL_restore 0 = .ok (.aload_n 0, 1) := by decide +kernel
theorem dL_restore_1 : decode cL_restore 1 = .ok (.invokevirtual 44, 3) := by decide +kernel
theorem dL_restore_4 : decode cL_restore 4 = .ok (.istore_n 1, 1) := by decide +kernel
theorem dL_restore_5 : decode cL_restore 5 = .ok (.goto 7, 3) := by decide +kernel
theorem dL_restore_8 : decode cL_restore 8 = .ok (.astore_n 2, 1) := by decide +kernel
theorem dL_restore_9 : decode cL_restore 9 = .ok (.bipush (-33), 2) := by decide +kernel
theorem dL_restore_11 : decode cL_restore 11 = .ok (.ireturn, 1) := by decide +kernel
theorem dL_restore_12 : decode cL_restore 12 = .ok (.iload_n 1, 1) := by decide +kernel
theorem dL_restore_13 : decode cL_restore 13 = .ok (.ireturn, 1) := by decide +kernel
set_option maxRecDepth 20000 in
theorem ggL_dove_X3_dove : GoodIn wsL_dove wsX3_dove := goodIn_ca (goodIn_ca (goodIn_r _ [7, 8, 9, 10, 11, 12, 13, 6, 14, 15, 16, 17, 18, 19, 20, 21, 22, 23, 24, 25, 26, 27, 28, 29, 30, 31, 32, 33, 34, 35, 36, 37, 38, 39, 40, 41] (by decide +kernel) (by decide +kernel)) (goodIn_sub (fun _ h => List.mem_cons_of_mem _ (List.mem_append_left _ (List.mem_append_right _ h))) (by decide +kernel))) (goodIn_sub (fun _ h => List.mem_cons_of_mem _ (List.mem_append_right _ h)) (by decide +kernel))
set_option maxRecDepth 20000 in
theorem gL_dove_X3_dove : GoodIn wsL_dove (wsV RL 47 RX3 yX3_dove wsX3_dove) := goodIn_app (goodIn_of _ (by decide +kernel)) ggL_dove_X3_dove
theorem dL_dove_0 : decode cL_dove 0 = .ok (.aload_n 0, 1) := by decide +kernel
theorem dL_dove_1 : decode cL_dove 1 = .ok (.iload_n 1, 1) := by decide +kernel
theorem dL_dove_2 : decode cL_dove 2 = .ok (.iload_n 2, 1) := by decide +kernel
theorem dL_dove_3 : decode cL_dove 3 = .ok (.invokevirtual 47, 3) := by decide +kernel
theorem dL_dove_6 : decode cL_dove 6 = .ok (.istore_n 3, 1) := by decide +kernel
theorem dL_dove_7 : decode cL_dove 7 = .ok (.goto 13, 3) := by decide +kernel
theorem dL_dove_10 : decode cL_dove 10 = .ok (.astore 4, 2) := by decide +kernel
theorem dL_dove_12 : decode cL_dove 12 = .ok (.bipush (-31), 2) := by decide +kernel
theorem dL_dove_14 : decode cL_dove 14 = .ok (.ireturn, 1) := by decide +kernel
theorem dL_dove_15 : decode cL_dove 15 = .ok (.astore 4, 2) := by decide +kernel
theorem dL_dove_17 : decode cL_dove 17 = .ok (.bipush (-32), 2) := by decide +kernel
theorem dL_dove_19 : decode cL_dove 19 = .ok (.ireturn, 1) := by decide +kernel
theorem dL_dove_20 : decode cL_dove 20 = .ok (.iload_n 3, 1) := by decide +kernel
theorem dL_dove_21 : decode cL_dove 21 = .ok (.ireturn, 1) := by decide +kernel
set_option maxRecDepth 20000 in
theorem ggL_hole_X3_hole : GoodIn wsL_hole wsX3_hole := goodIn_ca (goodIn_ca (goodIn_r _ [7, 8, 9, 10, 11, 12, 6, 13, 14, 15, 16, 17, 18, 19, 20, 21, 22, 23, 24, 25, 26, 27, 28, 29, 30, 31, 32, 33, 34, 35, 36, 37] (by decide +kernel) (by decide +kernel)) (goodIn_sub (fun _ h => List.mem_cons_of_mem _ (List.mem_append_left _ (List.mem_append_right _ h))) (by decide +kernel))) (goodIn_sub (fun _ h => List.mem_cons_of_mem _ (List.mem_append_right _ h)) (by decide +kernel))
set_option maxRecDepth 20000 in
theorem gL_hole_X3_hole : GoodIn wsL_hole (wsV RL 50 RX3 yX3_hole wsX3_hole) := goodIn_app (goodIn_of _ (by decide +kernel)) ggL_hole_X3_hole
theorem dL_hole_0 : decode cL_hole 0 = .ok (.aload_n 0, 1) := by decide +kernel
theorem dL_hole_1 : decode cL_hole 1 = .ok (.iload_n 1, 1) := by decide +kernel
theorem dL_hole_2 : decode cL_hole 2 = .ok (.iload_n 2, 1) := by decide +kernel
theorem dL_hole_3 : decode cL_hole 3 = .ok (.invokevirtual 50, 3) := by decide +kernel
theorem dL_hole_6 : decode cL_hole 6 = .ok (.istore_n 3, 1) := by decide +kernel
theorem dL_hole_7 : decode cL_hole 7 = .ok (.goto 13, 3) := by decide +kernel
theorem dL_hole_10 : decode cL_hole 10 = .ok (.astore 4, 2) := by decide +kernel
theorem dL_hole_12 : decode cL_hole 12 = .ok (.bipush (-31), 2) := by decide +kernel
theorem dL_hole_14 : decode cL_hole 14 = .ok (.ireturn, 1) := by decide +kernel
theorem dL_hole_15 : decode cL_hole 15 = .ok (.astore 4, 2) := by decide +kernel
theorem dL_hole_17 : decode cL_hole 17 = .ok (.bipush (-32), 2) := by decide +kernel
theorem dL_hole_19 : decode cL_hole 19 = .ok (.ireturn, 1) := by decide +kernel
theorem dL_hole_20 : decode cL_hole 20 = .ok (.iload_n 3, 1) := by decide +kernel
theorem dL_hole_21 : decode cL_hole 21 = .ok (.ireturn, 1) := by decide +kernel
set_option maxRecDepth 20000 in
theorem ggL_whyNot_X3_whyNot : GoodIn wsL_whyNot wsX3_whyNot := goodIn_ca (goodIn_ca (goodIn_r _ [7, 8, 9, 10, 11, 6, 12, 13, 14, 15, 16, 17, 18, 19, 20, 21, 22, 23, 24, 25, 26, 27, 28, 29, 30, 31, 32, 33, 34, 35, 36, 37, 38, 39, 40, 41, 42, 43, 44, 45, 46, 47, 48, 49] (by decide +kernel) (by decide +kernel)) (goodIn_sub (fun _ h => List.mem_cons_of_mem _ (List.mem_append_left _ (List.mem_append_right _ h))) (by decide +kernel))) (goodIn_sub (fun _ h => List.mem_cons_of_mem _ (List.mem_append_right _ h)) (by decide +kernel))
set_option maxRecDepth 20000 in
theorem gL_whyNot_X3_whyNot : GoodIn wsL_whyNot (wsV RL 53 RX3 yX3_whyNot wsX3_whyNot) := goodIn_app (goodIn_of _ (by decide +kernel)) ggL_whyNot_X3_whyNot
theorem dL_whyNot_0 : decode cL_whyNot 0 = .ok (.aload_n 0, 1) := by decide +kernel
theorem dL_whyNot_1 : decode cL_whyNot 1 = .ok (.iload_n 1, 1) := by decide +kernel
theorem dL_whyNot_2 : decode cL_whyNot 2 = .ok (.iload_n 2, 1) := by decide +kernel
theorem dL_whyNot_3 : decode cL_whyNot 3 = .ok (.invokevirtual 53, 3) := by decide +kernel
theorem dL_whyNot_6 : decode cL_whyNot 6 = .ok (.istore_n 3, 1) := by decide +kernel
theorem dL_whyNot_7 : decode cL_whyNot 7 = .ok (.goto 13, 3) := by decide +kernel
theorem dL_whyNot_10 : decode cL_whyNot 10 = .ok (.astore 4, 2) := by decide +kernel
theorem dL_whyNot_12 : decode cL_whyNot 12 = .ok (.bipush (-31), 2) := by decide +kernel
theorem dL_whyNot_14 : decode cL_whyNot 14 = .ok (.ireturn, 1) := by decide +kernel
theorem dL_whyNot_15 : decode cL_whyNot 15 = .ok (.astore 4, 2) := by decide +kernel
theorem dL_whyNot_17 : decode cL_whyNot 17 = .ok (.bipush (-32), 2) := by decide +kernel
theorem dL_whyNot_19 : decode cL_whyNot 19 = .ok (.ireturn, 1) := by decide +kernel
theorem dL_whyNot_20 : decode cL_whyNot 20 = .ok (.iload_n 3, 1) := by decide +kernel
theorem dL_whyNot_21 : decode cL_whyNot 21 = .ok (.ireturn, 1) := by decide +kernel
set_option maxRecDepth 20000 in
theorem ggL_ifHome_X3_ifHome : GoodIn wsL_ifHome wsX3_ifHome := goodIn_ca (goodIn_ca (goodIn_r _ [7, 8, 9, 10, 11, 12, 6, 13, 14, 15, 16, 17, 18, 19, 20, 21, 22, 23, 24, 25, 26, 27, 28, 29, 30, 31, 32, 33, 34, 35, 36, 37, 38, 39, 40, 41, 42, 43, 44, 45, 46, 47, 48, 49, 50, 51, 52, 53, 54, 55, 56, 57, 58, 59, 60, 61, 62, 63, 64, 65, 66, 67, 68, 69, 70, 71, 72, 73, 74, 75, 76, 77, 78, 79, 80, 81, 82, 83, 84, 85, 86, 87, 88, 89, 90, 91, 92, 93, 94, 95, 96, 97, 98, 99, 100, 101, 102, 103, 104, 105, 106, 107, 108, 109, 110, 111, 112, 113, 114, 115, 116, 117, 118, 119, 120, 121, 122, 123, 124, 125, 126, 127, 128, 129] (by decide +kernel) (by decide +kernel)) (goodIn_sub (fun _ h => List.mem_cons_of_mem _ (List.mem_append_left _ (List.mem_append_right _ h))) (by decide +kernel))) (goodIn_sub (fun _ h => List.mem_cons_of_mem _ (List.mem_append_right _ h)) (by decide +kernel))
set_option maxRecDepth 20000 in
theorem gL_ifHome_X3_ifHome : GoodIn wsL_ifHome (wsV RL 56 RX3 yX3_ifHome wsX3_ifHome) := goodIn_app (goodIn_of _ (by decide +kernel)) ggL_ifHome_X3_ifHome
theorem dL_ifHome_0 : decode cL_ifHome 0 = .ok (.aload_n 0, 1) := by decide +kernel
theorem dL_ifHome_1 : decode cL_ifHome 1 = .ok (.iload_n 1, 1) := by decide +kernel
theorem dL_ifHome_2 : decode cL_ifHome 2 = .ok (.iload_n 2, 1) := by decide +kernel
theorem dL_ifHome_3 : decode cL_ifHome 3 = .ok (.iload_n 3, 1) := by decide +kernel
theorem dL_ifHome_4 : decode cL_ifHome 4 = .ok (.invokevirtual 56, 3) := by decide +kernel
theorem dL_ifHome_7 : decode cL_ifHome 7 = .ok (.istore 4, 2) := by decide +kernel
theorem dL_ifHome_9 : decode cL_ifHome 9 = .ok (.goto 13, 3) := by decide +kernel
theorem dL_ifHome_12 : decode cL_ifHome 12 = .ok (.astore 5, 2) := by decide +kernel
theorem dL_ifHome_14 : decode cL_ifHome 14 = .ok (.bipush (-31), 2) := by decide +kernel
theorem dL_ifHome_16 : decode cL_ifHome 16 = .ok (.ireturn, 1) := by decide +kernel
theorem dL_ifHome_17 : decode cL_ifHome 17 = .ok (.astore 5, 2) := by decide +kernel
theorem dL_ifHome_19 : decode cL_ifHome 19 = .ok (.bipush (-32), 2) := by decide +kernel
theorem dL_ifHome_21 : decode cL_ifHome 21 = .ok (.ireturn, 1) := by decide +kernel
theorem dL_ifHome_22 : decode cL_ifHome 22 = .ok (.iload 4, 2) := by decide +kernel
theorem dL_ifHome_24 : decode cL_ifHome 24 = .ok (.ireturn, 1) := by decide +kernel
set_option maxRecDepth 20000 in
theorem ggL_step_X3_step : GoodIn wsL_step wsX3_step := goodIn_ca (goodIn_r _ [6, 7, 8, 9, 10, 11, 12, 13, 14, 15, 16, 17, 18, 19, 20, 21, 22, 23, 24, 25, 26, 27, 28, 29, 30, 31] (by decide +kernel) (by decide +kernel)) (goodIn_sub (fun _ h => List.mem_cons_of_mem _ (List.mem_append_right _ h)) (by decide +kernel))
set_option maxRecDepth 20000 in
theorem gL_step_X3_step : GoodIn wsL_step (wsV RL 60 RX3 yX3_step wsX3_step) := goodIn_app (goodIn_of _ (by decide +kernel)) ggL_step_X3_step
theorem dL_step_0 : decode cL_step 0 = .ok (.aload_n 0, 1) := by decide +kernel
theorem dL_step_1 : decode cL_step 1 = .ok (.iload_n 1, 1) := by decide +kernel
theorem dL_step_2 : decode cL_step 2 = .ok (.iload_n 2, 1) := by decide +kernel
theorem dL_step_3 : decode cL_step 3 = .ok (.invokevirtual 60, 3) := by decide +kernel
theorem dL_step_6 : decode cL_step 6 = .ok (.istore_n 3, 1) := by decide +kernel
theorem dL_step_7 : decode cL_step 7 = .ok (.goto 8, 3) := by decide +kernel
theorem dL_step_10 : decode cL_step 10 = .ok (.astore 4, 2) := by decide +kernel
theorem dL_step_12 : decode cL_step 12 = .ok (.bipush (-32), 2) := by decide +kernel
theorem dL_step_14 : decode cL_step 14 = .ok (.ireturn, 1) := by decide +kernel
theorem dL_step_15 : decode cL_step 15 = .ok (.iload_n 3, 1) := by decide +kernel
theorem dL_step_16 : decode cL_step 16 = .ok (.ireturn, 1) := by decide +kernel
