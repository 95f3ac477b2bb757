set_option maxRecDepth 20000 in
theorem ggX3_init_X0_init : GoodIn wsX3_init wsX0_init := goodIn_r _ [22, 23, 2, 3, 24, 13, 25, 26, 27, 28, 29, 30, 31, 32, 33, 34, 35, 36, 37, 38, 39, 40, 49, 50, 51, 52, 53, 54, 55, 56, 57, 58, 72, 73, 74] (by decide +kernel) (by decide +kernel)
set_option maxRecDepth 20000 in
theorem gX3_init_X0_init : GoodIn wsX3_init (wsX0_init) := ggX3_init_X0_init
set_option maxRecDepth 20000 in
theorem ggX3_init_X1_init : GoodIn wsX3_init wsX1_init := goodIn_r _ [43, 44, 2, 3, 45, 46, 47, 48, 68, 69, 70, 71] (by decide +kernel) (by decide +kernel)
set_option maxRecDepth 20000 in
theorem gX3_init_X1_init : GoodIn wsX3_init (wsX1_init) := ggX3_init_X1_init
theorem dX3_init_0 : decode cX3_init 0 = .ok (.aload_n 0, 1) := by decide +kernel
theorem dX3_init_1 : decode cX3_init 1 = .ok (.invokespecial 1, 3) := by decide +kernel
theorem dX3_init_4 : decode cX3_init 4 = .ok (.aload_n 0, 1) := by decide +kernel
theorem dX3_init_5 : decode cX3_init 5 = .ok (.new 7, 3) := by decide +kernel
theorem dX3_init_8 : decode cX3_init 8 = .ok (.dup, 1) := by decide +kernel
theorem dX3_init_9 : decode cX3_init 9 = .ok (.invokespecial 9, 3) := by decide +kernel
theorem dX3_init_12 : decode cX3_init 12 = .ok (.putfield 10, 3) := by decide +kernel
theorem dX3_init_15 : decode cX3_init 15 = .ok (.aload_n 0, 1) := by decide +kernel
theorem dX3_init_16 : decode cX3_init 16 = .ok (.new 7, 3) := by decide +kernel
theorem dX3_init_19 : decode cX3_init 19 = .ok (.dup, 1) := by decide +kernel
theorem dX3_init_20 : decode cX3_init 20 = .ok (.invokespecial 9, 3) := by decide +kernel
theorem dX3_init_23 : decode cX3_init 23 = .ok (.putfield 16, 3) := by decide +kernel
theorem dX3_init_26 : decode cX3_init 26 = .ok (.aload_n 0, 1) := by decide +kernel
theorem dX3_init_27 : decode cX3_init 27 = .ok (.new 7, 3) := by decide +kernel
theorem dX3_init_30 : decode cX3_init 30 = .ok (.dup, 1) := by decide +kernel
theorem dX3_init_31 : decode cX3_init 31 = .ok (.invokespecial 9, 3) := by decide +kernel
theorem dX3_init_34 : decode cX3_init 34 = .ok (.putfield 19, 3) := by decide +kernel
theorem dX3_init_37 : decode cX3_init 37 = .ok (.aload_n 0, 1) := by decide +kernel
theorem dX3_init_38 : decode cX3_init 38 = .ok (.iconst 0, 1) := by decide +kernel
theorem dX3_init_39 : decode cX3_init 39 = .ok (.putfield 22, 3) := by decide +kernel
theorem dX3_init_42 : decode cX3_init 42 = .ok (.aload_n 0, 1) := by decide +kernel
theorem dX3_init_43 : decode cX3_init 43 = .ok (.bipush 6, 2) := by decide +kernel
theorem dX3_init_45 : decode cX3_init 45 = .ok (.anewarray 7, 3) := by decide +kernel
theorem dX3_init_48 : decode cX3_init 48 = .ok (.putfield 26, 3) := by decide +kernel
theorem dX3_init_51 : decode cX3_init 51 = .ok (.iconst 0, 1) := by decide +kernel
theorem dX3_init_52 : decode cX3_init 52 = .ok (.istore_n 1, 1) := by decide +kernel
theorem dX3_init_53 : decode cX3_init 53 = .ok (.iload_n 1, 1) := by decide +kernel
theorem dX3_init_54 : decode cX3_init 54 = .ok (.bipush 6, 2) := by decide +kernel
theorem dX3_init_56 : decode cX3_init 56 = .ok (.if_icmp .ge 22, 3) := by decide +kernel
theorem dX3_init_59 : decode cX3_init 59 = .ok (.aload_n 0, 1) := by decide +kernel
theorem dX3_init_60 : decode cX3_init 60 = .ok (.getfield 26, 3) := by decide +kernel
theorem dX3_init_63 : decode cX3_init 63 = .ok (.iload_n 1, 1) := by decide +kernel
theorem dX3_init_64 : decode cX3_init 64 = .ok (.new 7, 3) := by decide +kernel
theorem dX3_init_67 : decode cX3_init 67 = .ok (.dup, 1) := by decide +kernel
theorem dX3_init_68 : decode cX3_init 68 = .ok (.invokespecial 9, 3) := by decide +kernel
theorem dX3_init_71 : decode cX3_init 71 = .ok (.aastore, 1) := by decide +kernel
theorem dX3_init_72 : decode cX3_init 72 = .ok (.iinc 1 1, 3) := by decide +kernel
theorem dX3_init_75 : decode cX3_init 75 = .ok (.goto (-22), 3) := by decide +kernel
theorem dX3_init_78 : decode cX3_init 78 = .ok (.aload_n 0, 1) := by decide +kernel
theorem dX3_init_79 : decode cX3_init 79 = .ok (.iconst 0, 1) := by decide +kernel
theorem dX3_init_80 : decode cX3_init 80 = .ok (.putfield 30, 3) := by decide +kernel
theorem dX3_init_83 : decode cX3_init 83 = .ok (.aload_n 0, 1) := by decide +kernel
theorem dX3_init_84 : decode cX3_init 84 = .ok (.bipush 60, 2) := by decide +kernel
theorem dX3_init_86 : decode cX3_init 86 = .ok (.newarray .int, 2) := by decide +kernel
theorem dX3_init_88 : decode cX3_init 88 = .ok (.putfield 34, 3) := by decide +kernel
theorem dX3_init_91 : decode cX3_init 91 = .ok (.aload_n 0, 1) := by decide +kernel
theorem dX3_init_92 : decode cX3_init 92 = .ok (.iconst 0, 1) := by decide +kernel
theorem dX3_init_93 : decode cX3_init 93 = .ok (.putfield 38, 3) := by decide +kernel
theorem dX3_init_96 : decode cX3_init 96 = .ok (.aload_n 0, 1) := by decide +kernel
theorem dX3_init_97 : decode cX3_init 97 = .ok (.new 41, 3) := by decide +kernel
theorem dX3_init_100 : decode cX3_init 100 = .ok (.dup, 1) := by decide +kernel
theorem dX3_init_101 : decode cX3_init 101 = .ok (.invokespecial 43, 3) := by decide +kernel
theorem dX3_init_104 : decode cX3_init 104 = .ok (.putfield 44, 3) := by decide +kernel
theorem dX3_init_107 : decode cX3_init 107 = .ok (.return_, 1) := by decide +kernel
set_option maxRecDepth 20000 in
theorem ggX3_buy_X3_needHole : GoodIn wsX3_buy wsX3_needHole := goodIn_ca (goodIn_r _ [9, 10, 11, 12, 13, 8, 14] (by decide +kernel) (by decide +kernel)) (goodIn_sub (fun _ h => List.mem_cons_of_mem _ (List.mem_append_right _ h)) (by decide +kernel))
set_option maxRecDepth 20000 in
theorem gX3_buy_X3_needHole : GoodIn wsX3_buy (va_wsS RX3 48 yX3_needHole wsX3_needHole) := goodIn_app (goodIn_of _ (by decide +kernel)) ggX3_buy_X3_needHole
set_option maxRecDepth 20000 in
theorem ggX3_buy_X0_reasonNotToBuy : GoodIn wsX3_buy wsX0_reasonNotToBuy := goodIn_r _ [19, 20, 21, 22, 23, 18, 24, 25, 26, 27, 28, 29, 13, 8, 14, 30, 31, 32, 33, 78, 79, 80, 81, 82, 83, 84, 85, 86, 87] (by decide +kernel) (by decide +kernel)
set_option maxRecDepth 20000 in
theorem gX3_buy_X0_reasonNotToBuy : GoodIn wsX3_buy (wsV RX3 59 RX0 yX0_reasonNotToBuy wsX0_reasonNotToBuy) := goodIn_app (goodIn_of _ (by decide +kernel)) ggX3_buy_X0_reasonNotToBuy
set_option maxRecDepth 20000 in
theorem ggX3_buy_X3_save : GoodIn wsX3_buy wsX3_save := goodIn_r _ [37, 38, 39, 5, 40, 41, 42, 18, 43, 29, 44, 45, 46, 47, 20, 48, 49, 50, 51, 52, 53, 54, 55, 56, 57, 58, 59, 60, 61, 62, 63, 64, 69, 70, 71, 72, 73, 74, 75, 76, 77, 78, 79, 80, 81, 82, 83, 84, 85, 86, 87, 88, 89, 90] (by decide +kernel) (by decide +kernel)
set_option maxRecDepth 20000 in
theorem gX3_buy_X3_save : GoodIn wsX3_buy (wsV RX3 68 RX3 yX3_save wsX3_save) := goodIn_app (goodIn_of _ (by decide +kernel)) ggX3_buy_X3_save
set_option maxRecDepth 20000 in
theorem ggX3_buy_X0_addDove : GoodIn wsX3_buy wsX0_addDove := goodIn_r _ [68, 29, 20, 25, 26, 27, 18, 28, 78, 79, 80, 81, 82, 83, 84, 85, 86, 87] (by decide +kernel) (by decide +kernel)
set_option maxRecDepth 20000 in
theorem gX3_buy_X0_addDove : GoodIn wsX3_buy (wsV RX3 71 RX0 yX0_addDove wsX0_addDove) := goodIn_app (goodIn_of _ (by decide +kernel)) ggX3_buy_X0_addDove
theorem dX3_buy_0 : decode cX3_buy 0 = .ok (.iload_n 1, 1) := by decide +kernel
theorem dX3_buy_1 : decode cX3_buy 1 = .ok (.invokestatic 48, 3) := by decide +kernel
theorem dX3_buy_4 : decode cX3_buy 4 = .ok (.iload_n 2, 1) := by decide +kernel
theorem dX3_buy_5 : decode cX3_buy 5 = .ok (.iconst 1, 1) := by decide +kernel
theorem dX3_buy_6 : decode cX3_buy 6 = .ok (.if_icmp .lt 9, 3) := by decide +kernel
theorem dX3_buy_9 : decode cX3_buy 9 = .ok (.iload_n 2, 1) := by decide +kernel
theorem dX3_buy_10 : decode cX3_buy 10 = .ok (.bipush 9, 2) := by decide +kernel
theorem dX3_buy_12 : decode cX3_buy 12 = .ok (.if_icmp .le 13, 3) := by decide +kernel
theorem dX3_buy_15 : decode cX3_buy 15 = .ok (.new 52, 3) := by decide +kernel
theorem dX3_buy_18 : decode cX3_buy 18 = .ok (.dup, 1) := by decide +kernel
theorem dX3_buy_19 : decode cX3_buy 19 = .ok (.ldc 54, 2) := by decide +kernel
theorem dX3_buy_21 : decode cX3_buy 21 = .ok (.invokespecial 56, 3) := by decide +kernel
theorem dX3_buy_24 : decode cX3_buy 24 = .ok (.athrow, 1) := by decide +kernel
theorem dX3_buy_25 : decode cX3_buy 25 = .ok (.aload_n 0, 1) := by decide +kernel
theorem dX3_buy_26 : decode cX3_buy 26 = .ok (.getfield 10, 3) := by decide +kernel
theorem dX3_buy_29 : decode cX3_buy 29 = .ok (.iload_n 1, 1) := by decide +kernel
theorem dX3_buy_30 : decode cX3_buy 30 = .ok (.invokevirtual 59, 3) := by decide +kernel
theorem dX3_buy_33 : decode cX3_buy 33 = .ok (.ifCond .eq 13, 3) := by decide +kernel
theorem dX3_buy_36 : decode cX3_buy 36 = .ok (.new 63, 3) := by decide +kernel
theorem dX3_buy_39 : decode cX3_buy 39 = .ok (.dup, 1) := by decide +kernel
theorem dX3_buy_40 : decode cX3_buy 40 = .ok (.ldc 65, 2) := by decide +kernel
theorem dX3_buy_42 : decode cX3_buy 42 = .ok (.invokespecial 67, 3) := by decide +kernel
theorem dX3_buy_45 : decode cX3_buy 45 = .ok (.athrow, 1) := by decide +kernel
theorem dX3_buy_46 : decode cX3_buy 46 = .ok (.aload_n 0, 1) := by decide +kernel
theorem dX3_buy_47 : decode cX3_buy 47 = .ok (.invokevirtual 68, 3) := by decide +kernel
theorem dX3_buy_50 : decode cX3_buy 50 = .ok (.aload_n 0, 1) := by decide +kernel
theorem dX3_buy_51 : decode cX3_buy 51 = .ok (.getfield 10, 3) := by decide +kernel
theorem dX3_buy_54 : decode cX3_buy 54 = .ok (.iload_n 1, 1) := by decide +kernel
theorem dX3_buy_55 : decode cX3_buy 55 = .ok (.iload_n 2, 1) := by decide +kernel
theorem dX3_buy_56 : decode cX3_buy 56 = .ok (.invokevirtual 71, 3) := by decide +kernel
theorem dX3_buy_59 : decode cX3_buy 59 = .ok (.ireturn, 1) := by decide +kernel
set_option maxRecDepth 20000 in
theorem ggX3_sell_X3_needDove : GoodIn wsX3_sell wsX3_needDove := goodIn_ca (goodIn_r _ [6, 7, 8, 1, 9, 10, 11, 12, 13, 14, 54, 55, 56, 57, 58, 59, 60, 61, 62, 63, 64, 65, 66, 67, 68, 69, 70, 71, 72] (by decide +kernel) (by decide +kernel)) (goodIn_sub (fun _ h => List.mem_cons_of_mem _ (List.mem_append_right _ h)) (by decide +kernel))
set_option maxRecDepth 20000 in
theorem gX3_sell_X3_needDove : GoodIn wsX3_sell (wsV RX3 75 RX3 yX3_needDove wsX3_needDove) := goodIn_app (goodIn_of _ (by decide +kernel)) ggX3_sell_X3_needDove
set_option maxRecDepth 20000 in
theorem ggX3_sell_X3_save : GoodIn wsX3_sell wsX3_save := goodIn_r _ [18, 19, 20, 1, 21, 22, 23, 12, 24, 14, 25, 26, 27, 28, 29, 30, 31, 32, 33, 34, 35, 36, 37, 38, 39, 40, 41, 42, 43, 44, 45, 46, 54, 55, 56, 57, 58, 59, 60, 61, 62, 63, 64, 65, 66, 67, 68, 69, 70, 71, 72, 73, 74, 75] (by decide +kernel) (by decide +kernel)
set_option maxRecDepth 20000 in
theorem gX3_sell_X3_save : GoodIn wsX3_sell (wsV RX3 68 RX3 yX3_save wsX3_save) := goodIn_app (goodIn_of _ (by decide +kernel)) ggX3_sell_X3_save
set_option maxRecDepth 20000 in
theorem ggX3_sell_X0_removeDove : GoodIn wsX3_sell wsX0_removeDove := goodIn_r _ [50, 14, 29, 51, 5, 52, 53, 10, 11, 12, 13, 63, 64, 65, 66, 67, 68, 69, 70, 71, 72] (by decide +kernel) (by decide +kernel)
set_option maxRecDepth 20000 in
theorem gX3_sell_X0_removeDove : GoodIn wsX3_sell (wsV RX3 78 RX0 yX0_removeDove wsX0_removeDove) := goodIn_app (goodIn_of _ (by decide +kernel)) ggX3_sell_X0_removeDove
theorem dX3_sell_0 : decode cX3_sell 0 = .ok (.aload_n 0, 1) := by decide +kernel
theorem dX3_sell_1 : decode cX3_sell 1 = .ok (.iload_n 1, 1) := by decide +kernel
theorem dX3_sell_2 : decode cX3_sell 2 = .ok (.invokevirtual 75, 3) := by decide +kernel
theorem dX3_sell_5 : decode cX3_sell 5 = .ok (.aload_n 0, 1) := by decide +kernel
theorem dX3_sell_6 : decode cX3_sell 6 = .ok (.invokevirtual 68, 3) := by decide +kernel
theorem dX3_sell_9 : decode cX3_sell 9 = .ok (.aload_n 0, 1) := by decide +kernel
theorem dX3_sell_10 : decode cX3_sell 10 = .ok (.getfield 10, 3) := by decide +kernel
theorem dX3_sell_13 : decode cX3_sell 13 = .ok (.iload_n 1, 1) := by decide +kernel
theorem dX3_sell_14 : decode cX3_sell 14 = .ok (.invokevirtual 78, 3) := by decide +kernel
theorem dX3_sell_17 : decode cX3_sell 17 = .ok (.ireturn, 1) := by decide +kernel
set_option maxRecDepth 20000 in
theorem ggX3_mate_X3_needDove : GoodIn wsX3_mate wsX3_needDove := goodIn_ca (goodIn_r _ [8, 9, 10, 3, 11, 12, 13, 14, 15, 16, 62, 63, 64, 65, 66, 67, 68, 69, 70, 71, 72, 73, 74, 75, 76, 77, 78, 79, 80] (by decide +kernel) (by decide +kernel)) (goodIn_sub (fun _ h => List.mem_cons_of_mem _ (List.mem_append_right _ h)) (by decide +kernel))
set_option maxRecDepth 20000 in
theorem gX3_mate_X3_needDove : GoodIn wsX3_mate (wsV RX3 75 RX3 yX3_needDove wsX3_needDove) := goodIn_app (goodIn_of _ (by decide +kernel)) ggX3_mate_X3_needDove
set_option maxRecDepth 20000 in
theorem ggX3_mate_X0_reasonNotToPair : GoodIn wsX3_mate wsX0_reasonNotToPair := goodIn_r _ [20, 16, 71, 72, 73, 74, 75, 76, 77, 78, 79, 80] (by decide +kernel) (by decide +kernel)
set_option maxRecDepth 20000 in
theorem gX3_mate_X0_reasonNotToPair : GoodIn wsX3_mate (wsV RX3 81 RX0 yX0_reasonNotToPair wsX0_reasonNotToPair) := goodIn_app (goodIn_of _ (by decide +kernel)) ggX3_mate_X0_reasonNotToPair
set_option maxRecDepth 20000 in
theorem ggX3_mate_X3_save : GoodIn wsX3_mate wsX3_save := goodIn_r _ [24, 25, 26, 3, 27, 28, 29, 14, 30, 16, 31, 32, 33, 34, 35, 36, 37, 38, 39, 40, 41, 42, 43, 44, 45, 46, 47, 48, 49, 50, 51, 52, 62, 63, 64, 65, 66, 67, 68, 69, 70, 71, 72, 73, 74, 75, 76, 77, 78, 79, 80, 81, 82, 83] (by decide +kernel) (by decide +kernel)
set_option maxRecDepth 20000 in
theorem gX3_mate_X3_save : GoodIn wsX3_mate (wsV RX3 68 RX3 yX3_save wsX3_save) := goodIn_app (goodIn_of _ (by decide +kernel)) ggX3_mate_X3_save
set_option maxRecDepth 20000 in
theorem ggX3_mate_X0_pair : GoodIn wsX3_mate wsX0_pair := goodIn_r _ [56, 16, 71, 72, 73, 74, 75, 76, 77, 78, 79, 80] (by decide +kernel) (by decide +kernel)
set_option maxRecDepth 20000 in
theorem gX3_mate_X0_pair : GoodIn wsX3_mate (wsV RX3 86 RX0 yX0_pair wsX0_pair) := goodIn_app (goodIn_of _ (by decide +kernel)) ggX3_mate_X0_pair
set_option maxRecDepth 20000 in
theorem ggX3_mate_X0_pairs : GoodIn wsX3_mate wsX0_pairs := goodIn_r _ [60, 16, 61, 12, 13, 14, 15, 71, 72, 73, 74, 75, 76, 77, 78, 79, 80] (by decide +kernel) (by decide +kernel)
set_option maxRecDepth 20000 in
theorem gX3_mate_X0_pairs : GoodIn wsX3_mate (wsV RX3 90 RX0 yX0_pairs wsX0_pairs) := goodIn_app (goodIn_of _ (by decide +kernel)) ggX3_mate_X0_pairs
theorem dX3_mate_0 : decode cX3_mate 0 = .ok (.aload_n 0, 1) := by decide +kernel
theorem dX3_mate_1 : decode cX3_mate 1 = .ok (.iload_n 1, 1) := by decide +kernel
theorem dX3_mate_2 : decode cX3_mate 2 = .ok (.invokevirtual 75, 3) := by decide +kernel
theorem dX3_mate_5 : decode cX3_mate 5 = .ok (.aload_n 0, 1) := by decide +kernel
theorem dX3_mate_6 : decode cX3_mate 6 = .ok (.iload_n 2, 1) := by decide +kernel
theorem dX3_mate_7 : decode cX3_mate 7 = .ok (.invokevirtual 75, 3) := by decide +kernel
theorem dX3_mate_10 : decode cX3_mate 10 = .ok (.aload_n 0, 1) := by decide +kernel
theorem dX3_mate_11 : decode cX3_mate 11 = .ok (.getfield 10, 3) := by decide +kernel
theorem dX3_mate_14 : decode cX3_mate 14 = .ok (.iload_n 1, 1) := by decide +kernel
theorem dX3_mate_15 : decode cX3_mate 15 = .ok (.iload_n 2, 1) := by decide +kernel
theorem dX3_mate_16 : decode cX3_mate 16 = .ok (.invokevirtual 81, 3) := by decide +kernel
theorem dX3_mate_19 : decode cX3_mate 19 = .ok (.ifCond .eq 13, 3) := by decide +kernel
theorem dX3_mate_22 : decode cX3_mate 22 = .ok (.new 63, 3) := by decide +kernel
theorem dX3_mate_25 : decode cX3_mate 25 = .ok (.dup, 1) := by decide +kernel
theorem dX3_mate_26 : decode cX3_mate 26 = .ok (.ldc 84, 2) := by decide +kernel
theorem dX3_mate_28 : decode cX3_mate 28 = .ok (.invokespecial 67, 3) := by decide +kernel
theorem dX3_mate_31 : decode cX3_mate 31 = .ok (.athrow, 1) := by decide +kernel
theorem dX3_mate_32 : decode cX3_mate 32 = .ok (.aload_n 0, 1) := by decide +kernel
theorem dX3_mate_33 : decode cX3_mate 33 = .ok (.invokevirtual 68, 3) := by decide +kernel
theorem dX3_mate_36 : decode cX3_mate 36 = .ok (.aload_n 0, 1) := by decide +kernel
theorem dX3_mate_37 : decode cX3_mate 37 = .ok (.getfield 10, 3) := by decide +kernel
theorem dX3_mate_40 : decode cX3_mate 40 = .ok (.iload_n 1, 1) := by decide +kernel
theorem dX3_mate_41 : decode cX3_mate 41 = .ok (.iload_n 2, 1) := by decide +kernel
theorem dX3_mate_42 : decode cX3_mate 42 = .ok (.invokevirtual 86, 3) := by decide +kernel
theorem dX3_mate_45 : decode cX3_mate 45 = .ok (.aload_n 0, 1) := by decide +kernel
theorem dX3_mate_46 : decode cX3_mate 46 = .ok (.getfield 10, 3) := by decide +kernel
theorem dX3_mate_49 : decode cX3_mate 49 = .ok (.invokevirtual 90, 3) := by decide +kernel
theorem dX3_mate_52 : decode cX3_mate 52 = .ok (.ireturn, 1) := by decide +kernel
set_option maxRecDepth 20000 in
theorem ggX3_shut_X3_needHole : GoodIn wsX3_shut wsX3_needHole := goodIn_ca (goodIn_r _ [7, 8, 9, 10, 11, 6, 12] (by decide +kernel) (by decide +kernel)) (goodIn_sub (fun _ h => List.mem_cons_of_mem _ (List.mem_append_right _ h)) (by decide +kernel))
set_option maxRecDepth 20000 in
theorem gX3_shut_X3_needHole : GoodIn wsX3_shut (va_wsS RX3 48 yX3_needHole wsX3_needHole) := goodIn_app (goodIn_of _ (by decide +kernel)) ggX3_shut_X3_needHole
set_option maxRecDepth 20000 in
theorem ggX3_shut_X0_reasonNotToShut : GoodIn wsX3_shut wsX0_reasonNotToShut := goodIn_r _ [17, 18, 11, 6, 12, 19, 20, 21, 16, 22, 72, 73, 74, 75, 76, 77, 78, 79, 80, 81] (by decide +kernel) (by decide +kernel)
set_option maxRecDepth 20000 in
theorem gX3_shut_X0_reasonNotToShut : GoodIn wsX3_shut (wsV RX3 94 RX0 yX0_reasonNotToShut wsX0_reasonNotToShut) := goodIn_app (goodIn_of _ (by decide +kernel)) ggX3_shut_X0_reasonNotToShut
set_option maxRecDepth 20000 in
theorem ggX3_shut_X3_save : GoodIn wsX3_shut wsX3_save := goodIn_r _ [26, 27, 28, 3, 29, 30, 31, 16, 32, 33, 34, 35, 36, 37, 18, 38, 39, 40, 41, 42, 43, 44, 45, 46, 47, 48, 49, 50, 51, 52, 53, 54, 63, 64, 65, 66, 67, 68, 69, 70, 71, 72, 73, 74, 75, 76, 77, 78, 79, 80, 81, 82, 83, 84] (by decide +kernel) (by decide +kernel)
set_option maxRecDepth 20000 in
theorem gX3_shut_X3_save : GoodIn wsX3_shut (wsV RX3 68 RX3 yX3_save wsX3_save) := goodIn_app (goodIn_of _ (by decide +kernel)) ggX3_shut_X3_save
set_option maxRecDepth 20000 in
theorem ggX3_shut_X0_setOpen : GoodIn wsX3_shut wsX0_setOpen := goodIn_r _ [58, 18, 11, 6, 12, 72, 73, 74, 75, 76, 77, 78, 79, 80, 81] (by decide +kernel) (by decide +kernel)
set_option maxRecDepth 20000 in
theorem gX3_shut_X0_setOpen : GoodIn wsX3_shut (wsV RX3 99 RX0 yX0_setOpen wsX0_setOpen) := goodIn_app (goodIn_of _ (by decide +kernel)) ggX3_shut_X0_setOpen
set_option maxRecDepth 20000 in
theorem ggX3_shut_X0_openHoles : GoodIn wsX3_shut wsX0_openHoles := goodIn_r _ [62, 19, 20, 21, 16, 22, 18, 11, 6, 12, 72, 73, 74, 75, 76, 77, 78, 79, 80, 81] (by decide +kernel) (by decide +kernel)
set_option maxRecDepth 20000 in
theorem gX3_shut_X0_openHoles : GoodIn wsX3_shut (wsV RX3 102 RX0 yX0_openHoles wsX0_openHoles) := goodIn_app (goodIn_of _ (by decide +kernel)) ggX3_shut_X0_openHoles
theorem dX3_shut_0 : decode cX3_shut 0 = .ok (.iload_n 1, 1) := by decide +kernel
theorem dX3_shut_1 : decode cX3_shut 1 = .ok (.invokestatic 48, 3) := by decide +kernel
theorem dX3_shut_4 : decode cX3_shut 4 = .ok (.aload_n 0, 1) := by decide +kernel
theorem dX3_shut_5 : decode cX3_shut 5 = .ok (.getfield 10, 3) := by decide +kernel
theorem dX3_shut_8 : decode cX3_shut 8 = .ok (.iload_n 1, 1) := by decide +kernel
theorem dX3_shut_9 : decode cX3_shut 9 = .ok (.invokevirtual 94, 3) := by decide +kernel
theorem dX3_shut_12 : decode cX3_shut 12 = .ok (.ifCond .eq 13, 3) := by decide +kernel
theorem dX3_shut_15 : decode cX3_shut 15 = .ok (.new 63, 3) := by decide +kernel
theorem dX3_shut_18 : decode cX3_shut 18 = .ok (.dup, 1) := by decide +kernel
theorem dX3_shut_19 : decode cX3_shut 19 = .ok (.ldc 97, 2) := by decide +kernel
theorem dX3_shut_21 : decode cX3_shut 21 = .ok (.invokespecial 67, 3) := by decide +kernel
theorem dX3_shut_24 : decode cX3_shut 24 = .ok (.athrow, 1) := by decide +kernel
theorem dX3_shut_25 : decode cX3_shut 25 = .ok (.aload_n 0, 1) := by decide +kernel
theorem dX3_shut_26 : decode cX3_shut 26 = .ok (.invokevirtual 68, 3) := by decide +kernel
theorem dX3_shut_29 : decode cX3_shut 29 = .ok (.aload_n 0, 1) := by decide +kernel
theorem dX3_shut_30 : decode cX3_shut 30 = .ok (.getfield 10, 3) := by decide +kernel
theorem dX3_shut_33 : decode cX3_shut 33 = .ok (.iload_n 1, 1) := by decide +kernel
theorem dX3_shut_34 : decode cX3_shut 34 = .ok (.iconst 0, 1) := by decide +kernel
theorem dX3_shut_35 : decode cX3_shut 35 = .ok (.invokevirtual 99, 3) := by decide +kernel
theorem dX3_shut_38 : decode cX3_shut 38 = .ok (.aload_n 0, 1) := by decide +kernel
theorem dX3_shut_39 : decode cX3_shut 39 = .ok (.getfield 10, 3) := by decide +kernel
theorem dX3_shut_42 : decode cX3_shut 42 = .ok (.invokevirtual 102, 3) := by decide +kernel
theorem dX3_shut_45 : decode cX3_shut 45 = .ok (.ireturn, 1) := by decide +kernel
set_option maxRecDepth 20000 in
theorem ggX3_open_X3_needHole : GoodIn wsX3_open wsX3_needHole := goodIn_ca (goodIn_r _ [5, 6, 7, 8, 9, 4, 10] (by decide +kernel) (by decide +kernel)) (goodIn_sub (fun _ h => List.mem_cons_of_mem _ (List.mem_append_right _ h)) (by decide +kernel))
set_option maxRecDepth 20000 in
theorem gX3_open_X3_needHole : GoodIn wsX3_open (va_wsS RX3 48 yX3_needHole wsX3_needHole) := goodIn_app (goodIn_of _ (by decide +kernel)) ggX3_open_X3_needHole
set_option maxRecDepth 20000 in
theorem ggX3_open_X3_save : GoodIn wsX3_open wsX3_save := goodIn_r _ [14, 15, 16, 1, 17, 18, 19, 20, 21, 22, 23, 24, 25, 26, 27, 28, 29, 30, 31, 32, 33, 34, 35, 36, 37, 38, 39, 40, 41, 42, 43, 44, 57, 58, 59, 60, 61, 62, 63, 64, 65, 66, 67, 68, 69, 70, 71, 72, 73, 74, 75, 76, 77, 78] (by decide +kernel) (by decide +kernel)
set_option maxRecDepth 20000 in
theorem gX3_open_X3_save : GoodIn wsX3_open (wsV RX3 68 RX3 yX3_save wsX3_save) := goodIn_app (goodIn_of _ (by decide +kernel)) ggX3_open_X3_save
set_option maxRecDepth 20000 in
theorem ggX3_open_X0_setOpen : GoodIn wsX3_open wsX0_setOpen := goodIn_r _ [48, 27, 9, 4, 10, 66, 67, 68, 69, 70, 71, 72, 73, 74, 75] (by decide +kernel) (by decide +kernel)
set_option maxRecDepth 20000 in
theorem gX3_open_X0_setOpen : GoodIn wsX3_open (wsV RX3 99 RX0 yX0_setOpen wsX0_setOpen) := goodIn_app (goodIn_of _ (by decide +kernel)) ggX3_open_X0_setOpen
set_option maxRecDepth 20000 in
theorem ggX3_open_X0_openHoles : GoodIn wsX3_open wsX0_openHoles := goodIn_r _ [52, 53, 54, 55, 20, 56, 27, 9, 4, 10, 66, 67, 68, 69, 70, 71, 72, 73, 74, 75] (by decide +kernel) (by decide +kernel)
set_option maxRecDepth 20000 in
theorem gX3_open_X0_openHoles : GoodIn wsX3_open (wsV RX3 102 RX0 yX0_openHoles wsX0_openHoles) := goodIn_app (goodIn_of _ (by decide +kernel)) ggX3_open_X0_openHoles
theorem dX3_open_0 : decode cX3_open 0 = .ok (.iload_n 1, 1) := by decide +kernel
theorem dX3_open_1 : decode cX3_open 1 = .ok (.invokestatic 48, 3) := by decide +kernel
theorem dX3_open_4 : decode cX3_open 4 = .ok (.aload_n 0, 1) := by decide +kernel
theorem dX3_open_5 : decode cX3_open 5 = .ok (.invokevirtual 68, 3) := by decide +kernel
theorem dX3_open_8 : decode cX3_open 8 = .ok (.aload_n 0, 1) := by decide +kernel
theorem dX3_open_9 : decode cX3_open 9 = .ok (.getfield 10, 3) := by decide +kernel
theorem dX3_open_12 : decode cX3_open 12 = .ok (.iload_n 1, 1) := by decide +kernel
theorem dX3_open_13 : decode cX3_open 13 = .ok (.iconst 1, 1) := by decide +kernel
theorem dX3_open_14 : decode cX3_open 14 = .ok (.invokevirtual 99, 3) := by decide +kernel
theorem dX3_open_17 : decode cX3_open 17 = .ok (.aload_n 0, 1) := by decide +kernel
theorem dX3_open_18 : decode cX3_open 18 = .ok (.getfield 10, 3) := by decide +kernel
theorem dX3_open_21 : decode cX3_open 21 = .ok (.invokevirtual 102, 3) := by decide +kernel
theorem dX3_open_24 : decode cX3_open 24 = .ok (.ireturn, 1) := by decide +kernel
set_option maxRecDepth 20000 in
theorem ggX3_set_X3_save : GoodIn wsX3_set wsX3_save := goodIn_r _ [10, 11, 12, 5, 13, 14, 15, 16, 17, 18, 19, 20, 21, 22, 23, 24, 25, 26, 27, 28, 29, 30, 31, 32, 33, 34, 35, 36, 37, 38, 39, 40, 41, 42, 43, 44, 45, 46, 47, 48, 49, 50, 51, 52, 53, 54, 55, 56, 57, 58, 59, 60, 61, 62] (by decide +kernel) (by decide +kernel)
set_option maxRecDepth 20000 in
theorem gX3_set_X3_save : GoodIn wsX3_set (wsV RX3 68 RX3 yX3_save wsX3_save) := goodIn_app (goodIn_of _ (by decide +kernel)) ggX3_set_X3_save
theorem dX3_set_0 : decode cX3_set 0 = .ok (.iload_n 1, 1) := by decide +kernel
theorem dX3_set_1 : decode cX3_set 1 = .ok (.ifCond .lt 8, 3) := by decide +kernel
theorem dX3_set_4 : decode cX3_set 4 = .ok (.iload_n 1, 1) := by decide +kernel
theorem dX3_set_5 : decode cX3_set 5 = .ok (.iconst 2, 1) := by decide +kernel
theorem dX3_set_6 : decode cX3_set 6 = .ok (.if_icmp .lt 13, 3) := by decide +kernel
theorem dX3_set_9 : decode cX3_set 9 = .ok (.new 105, 3) := by decide +kernel
theorem dX3_set_12 : decode cX3_set 12 = .ok (.dup, 1) := by decide +kernel
theorem dX3_set_13 : decode cX3_set 13 = .ok (.ldc 107, 2) := by decide +kernel
theorem dX3_set_15 : decode cX3_set 15 = .ok (.invokespecial 109, 3) := by decide +kernel
theorem dX3_set_18 : decode cX3_set 18 = .ok (.athrow, 1) := by decide +kernel
theorem dX3_set_19 : decode cX3_set 19 = .ok (.iload_n 1, 1) := by decide +kernel
theorem dX3_set_20 : decode cX3_set 20 = .ok (.ifCond .ne 9, 3) := by decide +kernel
theorem dX3_set_23 : decode cX3_set 23 = .ok (.sipush 1439, 3) := by decide +kernel
theorem dX3_set_26 : decode cX3_set 26 = .ok (.goto 5, 3) := by decide +kernel
theorem dX3_set_29 : decode cX3_set 29 = .ok (.bipush 24, 2) := by decide +kernel
theorem dX3_set_31 : decode cX3_set 31 = .ok (.istore_n 3, 1) := by decide +kernel
theorem dX3_set_32 : decode cX3_set 32 = .ok (.iload_n 2, 1) := by decide +kernel
theorem dX3_set_33 : decode cX3_set 33 = .ok (.ifCond .lt 8, 3) := by decide +kernel
theorem dX3_set_36 : decode cX3_set 36 = .ok (.iload_n 2, 1) := by decide +kernel
theorem dX3_set_37 : decode cX3_set 37 = .ok (.iload_n 3, 1) := by decide +kernel
theorem dX3_set_38 : decode cX3_set 38 = .ok (.if_icmp .le 13, 3) := by decide +kernel
theorem dX3_set_41 : decode cX3_set 41 = .ok (.new 52, 3) := by decide +kernel
theorem dX3_set_44 : decode cX3_set 44 = .ok (.dup, 1) := by decide +kernel
theorem dX3_set_45 : decode cX3_set 45 = .ok (.ldc 110, 2) := by decide +kernel
theorem dX3_set_47 : decode cX3_set 47 = .ok (.invokespecial 56, 3) := by decide +kernel
theorem dX3_set_50 : decode cX3_set 50 = .ok (.athrow, 1) := by decide +kernel
theorem dX3_set_51 : decode cX3_set 51 = .ok (.aload_n 0, 1) := by decide +kernel
theorem dX3_set_52 : decode cX3_set 52 = .ok (.invokevirtual 68, 3) := by decide +kernel
theorem dX3_set_55 : decode cX3_set 55 = .ok (.aload_n 0, 1) := by decide +kernel
theorem dX3_set_56 : decode cX3_set 56 = .ok (.getfield 10, 3) := by decide +kernel
theorem dX3_set_59 : decode cX3_set 59 = .ok (.getfield 112, 3) := by decide +kernel
theorem dX3_set_62 : decode cX3_set 62 = .ok (.iload_n 1, 1) := by decide +kernel
theorem dX3_set_63 : decode cX3_set 63 = .ok (.iaload, 1) := by decide +kernel
theorem dX3_set_64 : decode cX3_set 64 = .ok (.istore 4, 2) := by decide +kernel
theorem dX3_set_66 : decode cX3_set 66 = .ok (.aload_n 0, 1) := by decide +kernel
theorem dX3_set_67 : decode cX3_set 67 = .ok (.getfield 10, 3) := by decide +kernel
theorem dX3_set_70 : decode cX3_set 70 = .ok (.getfield 112, 3) := by decide +kernel
theorem dX3_set_73 : decode cX3_set 73 = .ok (.iload_n 1, 1) := by decide +kernel
theorem dX3_set_74 : decode cX3_set 74 = .ok (.iload_n 2, 1) := by decide +kernel
theorem dX3_set_75 : decode cX3_set 75 = .ok (.iastore, 1) := by decide +kernel
theorem dX3_set_76 : decode cX3_set 76 = .ok (.iload 4, 2) := by decide +kernel
theorem dX3_set_78 : decode cX3_set 78 = .ok (.ireturn, 1) := by decide +kernel
set_option maxRecDepth 20000 in
theorem ggX3_home_X3_needDove : GoodIn wsX3_home wsX3_needDove := goodIn_ca (goodIn_r _ [8, 9, 10, 3, 11, 12, 13, 14, 15, 16, 97, 98, 99, 100, 101, 102, 103, 104, 105, 106, 107, 108, 109, 110, 111, 112, 113, 114, 115] (by decide +kernel) (by decide +kernel)) (goodIn_sub (fun _ h => List.mem_cons_of_mem _ (List.mem_append_left _ (List.mem_append_right _ h))) (by decide +kernel))
set_option maxRecDepth 20000 in
theorem gX3_home_X3_needDove : GoodIn wsX3_home (wsV RX3 75 RX3 yX3_needDove wsX3_needDove) := goodIn_app (goodIn_of _ (by decide +kernel)) ggX3_home_X3_needDove
set_option maxRecDepth 20000 in
theorem ggX3_home_X3_needTime : GoodIn wsX3_home wsX3_needTime := goodIn_ca (goodIn_r _ [19, 20, 21] (by decide +kernel) (by decide +kernel)) (goodIn_sub (fun _ h => List.mem_cons_of_mem _ (List.mem_append_right _ h)) (by decide +kernel))
set_option maxRecDepth 20000 in
theorem gX3_home_X3_needTime : GoodIn wsX3_home (va_wsS RX3 115 yX3_needTime wsX3_needTime) := goodIn_app (goodIn_of _ (by decide +kernel)) ggX3_home_X3_needTime
set_option maxRecDepth 20000 in
theorem ggX3_home_X0_reasonNotHome : GoodIn wsX3_home wsX0_reasonNotHome := goodIn_r _ [25, 16, 26, 106, 107, 108, 109, 110, 111, 112, 113, 114, 115] (by decide +kernel) (by decide +kernel)
set_option maxRecDepth 20000 in
theorem gX3_home_X0_reasonNotHome : GoodIn wsX3_home (wsV RX3 118 RX0 yX0_reasonNotHome wsX0_reasonNotHome) := goodIn_app (goodIn_of _ (by decide +kernel)) ggX3_home_X0_reasonNotHome
set_option maxRecDepth 20000 in
theorem ggX3_home_X3_save : GoodIn wsX3_home wsX3_save := goodIn_r _ [30, 31, 32, 3, 33, 34, 35, 14, 36, 16, 37, 38, 39, 40, 41, 42, 43, 44, 45, 46, 26, 47, 48, 49, 50, 51, 52, 53, 54, 55, 56, 57, 97, 98, 99, 100, 101, 102, 103, 104, 105, 106, 107, 108, 109, 110, 111, 112, 113, 114, 115, 116, 117, 118] (by decide +kernel) (by decide +kernel)
set_option maxRecDepth 20000 in
theorem gX3_home_X3_save : GoodIn wsX3_home (wsV RX3 68 RX3 yX3_save wsX3_save) := goodIn_app (goodIn_of _ (by decide +kernel)) ggX3_home_X3_save
set_option maxRecDepth 20000 in
theorem ggX3_home_X0_comeHome : GoodIn wsX3_home wsX0_comeHome := goodIn_r _ [61, 26, 45, 47, 42, 16, 62, 63, 64, 14, 65, 41, 66, 7, 67, 68, 69, 70, 71, 72, 12, 13, 15, 73, 74, 75, 76, 48, 77, 78, 79, 80, 81, 82, 83, 52, 84, 57, 54, 56, 85, 86, 87, 88, 89, 90, 91, 92, 93, 94, 95, 96, 106, 107, 108, 109, 110, 111, 112, 113, 114, 115, 116, 117, 118] (by decide +kernel) (by decide +kernel)
set_option maxRecDepth 20000 in
theorem gX3_home_X0_comeHome : GoodIn wsX3_home (wsV RX3 123 RX0 yX0_comeHome wsX0_comeHome) := goodIn_app (goodIn_of _ (by decide +kernel)) ggX3_home_X0_comeHome
theorem dX3_home_0 : decode cX3_home 0 = .ok (.aload_n 0, 1) := by decide +kernel
theorem dX3_home_1 : decode cX3_home 1 = .ok (.iload_n 1, 1) := by decide +kernel
theorem dX3_home_2 : decode cX3_home 2 = .ok (.invokevirtual 75, 3) := by decide +kernel
theorem dX3_home_5 : decode cX3_home 5 = .ok (.iload_n 2, 1) := by decide +kernel
theorem dX3_home_6 : decode cX3_home 6 = .ok (.invokestatic 115, 3) := by decide +kernel
theorem dX3_home_9 : decode cX3_home 9 = .ok (.aload_n 0, 1) := by decide +kernel
theorem dX3_home_10 : decode cX3_home 10 = .ok (.getfield 10, 3) := by decide +kernel
theorem dX3_home_13 : decode cX3_home 13 = .ok (.iload_n 1, 1) := by decide +kernel
theorem dX3_home_14 : decode cX3_home 14 = .ok (.iload_n 2, 1) := by decide +kernel
theorem dX3_home_15 : decode cX3_home 15 = .ok (.invokevirtual 118, 3) := by decide +kernel
theorem dX3_home_18 : decode cX3_home 18 = .ok (.ifCond .eq 13, 3) := by decide +kernel
theorem dX3_home_21 : decode cX3_home 21 = .ok (.new 63, 3) := by decide +kernel
theorem dX3_home_24 : decode cX3_home 24 = .ok (.dup, 1) := by decide +kernel
theorem dX3_home_25 : decode cX3_home 25 = .ok (.ldc 121, 2) := by decide +kernel
theorem dX3_home_27 : decode cX3_home 27 = .ok (.invokespecial 67, 3) := by decide +kernel
theorem dX3_home_30 : decode cX3_home 30 = .ok (.athrow, 1) := by decide +kernel
theorem dX3_home_31 : decode cX3_home 31 = .ok (.aload_n 0, 1) := by decide +kernel
theorem dX3_home_32 : decode cX3_home 32 = .ok (.invokevirtual 68, 3) := by decide +kernel
theorem dX3_home_35 : decode cX3_home 35 = .ok (.aload_n 0, 1) := by decide +kernel
theorem dX3_home_36 : decode cX3_home 36 = .ok (.getfield 10, 3) := by decide +kernel
theorem dX3_home_39 : decode cX3_home 39 = .ok (.iload_n 1, 1) := by decide +kernel
theorem dX3_home_40 : decode cX3_home 40 = .ok (.iload_n 2, 1) := by decide +kernel
theorem dX3_home_41 : decode cX3_home 41 = .ok (.invokevirtual 123, 3) := by decide +kernel
theorem dX3_home_44 : decode cX3_home 44 = .ok (.ireturn, 1) := by decide +kernel
set_option maxRecDepth 20000 in
theorem ggX3_dawn_X3_save : GoodIn wsX3_dawn wsX3_save := goodIn_r _ [6, 7, 8, 1, 9, 10, 11, 12, 13, 14, 15, 16, 17, 18, 19, 20, 21, 22, 23, 24, 25, 26, 27, 28, 29, 30, 31, 32, 33, 34, 35, 36, 49, 50, 51, 52, 53, 54, 55, 56, 57, 58, 59, 60, 61, 62, 63, 64, 65, 66, 67, 68, 69, 70] (by decide +kernel) (by decide +kernel)
set_option maxRecDepth 20000 in
theorem gX3_dawn_X3_save : GoodIn wsX3_dawn (wsV RX3 68 RX3 yX3_save wsX3_save) := goodIn_app (goodIn_of _ (by decide +kernel)) ggX3_dawn_X3_save
set_option maxRecDepth 20000 in
theorem ggX3_dawn_X0_endNight : GoodIn wsX3_dawn wsX0_endNight := goodIn_r _ [40, 21, 14, 19, 24, 25, 41, 42, 43, 12, 44, 45, 46, 47, 48, 58, 59, 60, 61, 62, 63, 64, 65, 66, 67] (by decide +kernel) (by decide +kernel)
set_option maxRecDepth 20000 in
theorem gX3_dawn_X0_endNight : GoodIn wsX3_dawn (wsV RX3 126 RX0 yX0_endNight wsX0_endNight) := goodIn_app (goodIn_of _ (by decide +kernel)) ggX3_dawn_X0_endNight
theorem dX3_dawn_0 : decode cX3_dawn 0 = .ok (.aload_n 0, 1) := by decide +kernel
theorem dX3_dawn_1 : decode cX3_dawn 1 = .ok (.invokevirtual 68, 3) := by decide +kernel
theorem dX3_dawn_4 : decode cX3_dawn 4 = .ok (.aload_n 0, 1) := by decide +kernel
theorem dX3_dawn_5 : decode cX3_dawn 5 = .ok (.getfield 10, 3) := by decide +kernel
theorem dX3_dawn_8 : decode cX3_dawn 8 = .ok (.invokevirtual 126, 3) := by decide +kernel
theorem dX3_dawn_11 : decode cX3_dawn 11 = .ok (.ireturn, 1) := by decide +kernel
set_option maxRecDepth 20000 in
theorem ggX3_undo_X0_copyFrom : GoodIn wsX3_undo wsX0_copyFrom := goodIn_r _ [10, 11, 12, 13, 14, 15, 16, 17, 18, 19, 20, 21, 22, 23, 24, 25, 26, 27, 28, 29, 30, 31, 32, 33, 43, 44, 45, 46, 47, 48, 49, 50, 51, 52, 53, 54, 55] (by decide +kernel) (by decide +kernel)
set_option maxRecDepth 20000 in
theorem gX3_undo_X0_copyFrom : GoodIn wsX3_undo (wsV RX3 162 RX0 yX0_copyFrom wsX0_copyFrom) := goodIn_app (goodIn_of _ (by decide +kernel)) ggX3_undo_X0_copyFrom
theorem dX3_undo_0 : decode cX3_undo 0 = .ok (.aload_n 0, 1) := by decide +kernel
theorem dX3_undo_1 : decode cX3_undo 1 = .ok (.getfield 30, 3) := by decide +kernel
theorem dX3_undo_4 : decode cX3_undo 4 = .ok (.ifCond .gt 13, 3) := by decide +kernel
theorem dX3_undo_7 : decode cX3_undo 7 = .ok (.new 63, 3) := by decide +kernel
theorem dX3_undo_10 : decode cX3_undo 10 = .ok (.dup, 1) := by decide +kernel
theorem dX3_undo_11 : decode cX3_undo 11 = .ok (.ldc 160, 2) := by decide +kernel
theorem dX3_undo_13 : decode cX3_undo 13 = .ok (.invokespecial 67, 3) := by decide +kernel
theorem dX3_undo_16 : decode cX3_undo 16 = .ok (.athrow, 1) := by decide +kernel
theorem dX3_undo_17 : decode cX3_undo 17 = .ok (.aload_n 0, 1) := by decide +kernel
theorem dX3_undo_18 : decode cX3_undo 18 = .ok (.dup, 1) := by decide +kernel
theorem dX3_undo_19 : decode cX3_undo 19 = .ok (.getfield 30, 3) := by decide +kernel
theorem dX3_undo_22 : decode cX3_undo 22 = .ok (.iconst 1, 1) := by decide +kernel
theorem dX3_undo_23 : decode cX3_undo 23 = .ok (.isub, 1) := by decide +kernel
theorem dX3_undo_24 : decode cX3_undo 24 = .ok (.putfield 30, 3) := by decide +kernel
theorem dX3_undo_27 : decode cX3_undo 27 = .ok (.aload_n 0, 1) := by decide +kernel
theorem dX3_undo_28 : decode cX3_undo 28 = .ok (.getfield 10, 3) := by decide +kernel
theorem dX3_undo_31 : decode cX3_undo 31 = .ok (.aload_n 0, 1) := by decide +kernel
theorem dX3_undo_32 : decode cX3_undo 32 = .ok (.getfield 26, 3) := by decide +kernel
theorem dX3_undo_35 : decode cX3_undo 35 = .ok (.aload_n 0, 1) := by decide +kernel
theorem dX3_undo_36 : decode cX3_undo 36 = .ok (.getfield 30, 3) := by decide +kernel
theorem dX3_undo_39 : decode cX3_undo 39 = .ok (.aaload, 1) := by decide +kernel
theorem dX3_undo_40 : decode cX3_undo 40 = .ok (.invokevirtual 162, 3) := by decide +kernel
theorem dX3_undo_43 : decode cX3_undo 43 = .ok (.aload_n 0, 1) := by decide +kernel
theorem dX3_undo_44 : decode cX3_undo 44 = .ok (.getfield 30, 3) := by decide +kernel
theorem dX3_undo_47 : decode cX3_undo 47 = .ok (.ireturn, 1) := by decide +kernel
set_option maxRecDepth 20000 in
theorem ggX3_restore_X3_save : GoodIn wsX3_restore wsX3_save := goodIn_r _ [10, 11, 12, 4, 13, 14, 15, 16, 17, 18, 19, 20, 21, 22, 23, 24, 25, 26, 27, 28, 29, 30, 31, 32, 33, 34, 35, 36, 37, 38, 39, 40, 41, 42, 43, 44, 45, 46, 47, 48, 49, 50, 51, 52, 53, 54, 55, 56, 57, 58, 59, 60, 61, 62] (by decide +kernel) (by decide +kernel)
set_option maxRecDepth 20000 in
theorem gX3_restore_X3_save : GoodIn wsX3_restore (wsV RX3 68 RX3 yX3_save wsX3_save) := goodIn_app (goodIn_of _ (by decide +kernel)) ggX3_restore_X3_save
set_option maxRecDepth 20000 in
theorem ggX3_restore_X0_copyFrom : GoodIn wsX3_restore wsX0_copyFrom := goodIn_r _ [17, 18, 19, 20, 21, 22, 23, 24, 25, 26, 27, 28, 29, 30, 31, 32, 33, 34, 35, 36, 37, 38, 39, 40, 50, 51, 52, 53, 54, 55, 56, 57, 58, 59, 60, 61, 62] (by decide +kernel) (by decide +kernel)
set_option maxRecDepth 20000 in
theorem gX3_restore_X0_copyFrom : GoodIn wsX3_restore (wsV RX3 162 RX0 yX0_copyFrom wsX0_copyFrom) := goodIn_app (goodIn_of _ (by decide +kernel)) ggX3_restore_X0_copyFrom
theorem dX3_restore_0 : decode cX3_restore 0 = .ok (.aload_n 0, 1) := by decide +kernel
theorem dX3_restore_1 : decode cX3_restore 1 = .ok (.getfield 22, 3) := by decide +kernel
theorem dX3_restore_4 : decode cX3_restore 4 = .ok (.ifCond .ne 13, 3) := by decide +kernel
theorem dX3_restore_7 : decode cX3_restore 7 = .ok (.new 63, 3) := by decide +kernel
theorem dX3_restore_10 : decode cX3_restore 10 = .ok (.dup, 1) := by decide +kernel
theorem dX3_restore_11 : decode cX3_restore 11 = .ok (.ldc 169, 2) := by decide +kernel
theorem dX3_restore_13 : decode cX3_restore 13 = .ok (.invokespecial 67, 3) := by decide +kernel
theorem dX3_restore_16 : decode cX3_restore 16 = .ok (.athrow, 1) := by decide +kernel
theorem dX3_restore_17 : decode cX3_restore 17 = .ok (.aload_n 0, 1) := by decide +kernel
theorem dX3_restore_18 : decode cX3_restore 18 = .ok (.invokevirtual 68, 3) := by decide +kernel
theorem dX3_restore_21 : decode cX3_restore 21 = .ok (.aload_n 0, 1) := by decide +kernel
theorem dX3_restore_22 : decode cX3_restore 22 = .ok (.getfield 10, 3) := by decide +kernel
theorem dX3_restore_25 : decode cX3_restore 25 = .ok (.aload_n 0, 1) := by decide +kernel
theorem dX3_restore_26 : decode cX3_restore 26 = .ok (.getfield 19, 3) := by decide +kernel
theorem dX3_restore_29 : decode cX3_restore 29 = .ok (.invokevirtual 162, 3) := by decide +kernel
theorem dX3_restore_32 : decode cX3_restore 32 = .ok (.aload_n 0, 1) := by decide +kernel
theorem dX3_restore_33 : decode cX3_restore 33 = .ok (.getfield 10, 3) := by decide +kernel
theorem dX3_restore_36 : decode cX3_restore 36 = .ok (.getfield 166, 3) := by decide +kernel
theorem dX3_restore_39 : decode cX3_restore 39 = .ok (.ireturn, 1) := by decide +kernel
set_option maxRecDepth 20000 in
theorem ggX3_dove_X3_needDove : GoodIn wsX3_dove wsX3_needDove := goodIn_ca (goodIn_r _ [8, 9, 10, 3, 11, 12, 13, 14, 15, 16, 17, 18, 19, 20, 21, 22, 23, 24, 25, 26, 27, 28, 29, 30, 31, 32, 33, 34, 35] (by decide +kernel) (by decide +kernel)) (goodIn_sub (fun _ h => List.mem_cons_of_mem _ (List.mem_append_right _ h)) (by decide +kernel))
set_option maxRecDepth 20000 in
theorem gX3_dove_X3_needDove : GoodIn wsX3_dove (wsV RX3 75 RX3 yX3_needDove wsX3_needDove) := goodIn_app (goodIn_of _ (by decide +kernel)) ggX3_dove_X3_needDove
theorem dX3_dove_0 : decode cX3_dove 0 = .ok (.aload_n 0, 1) := by decide +kernel
theorem dX3_dove_1 : decode cX3_dove 1 = .ok (.iload_n 1, 1) := by decide +kernel
theorem dX3_dove_2 : decode cX3_dove 2 = .ok (.invokevirtual 75, 3) := by decide +kernel
theorem dX3_dove_5 : decode cX3_dove 5 = .ok (.iload_n 2, 1) := by decide +kernel
theorem dX3_dove_6 : decode cX3_dove 6 = .ok (.ifCond .lt 9, 3) := by decide +kernel
theorem dX3_dove_9 : decode cX3_dove 9 = .ok (.iload_n 2, 1) := by decide +kernel
theorem dX3_dove_10 : decode cX3_dove 10 = .ok (.bipush 8, 2) := by decide +kernel
theorem dX3_dove_12 : decode cX3_dove 12 = .ok (.if_icmp .lt 13, 3) := by decide +kernel
theorem dX3_dove_15 : decode cX3_dove 15 = .ok (.new 52, 3) := by decide +kernel
theorem dX3_dove_18 : decode cX3_dove 18 = .ok (.dup, 1) := by decide +kernel
theorem dX3_dove_19 : decode cX3_dove 19 = .ok (.ldc 171, 2) := by decide +kernel
theorem dX3_dove_21 : decode cX3_dove 21 = .ok (.invokespecial 56, 3) := by decide +kernel
theorem dX3_dove_24 : decode cX3_dove 24 = .ok (.athrow, 1) := by decide +kernel
theorem dX3_dove_25 : decode cX3_dove 25 = .ok (.aload_n 0, 1) := by decide +kernel
theorem dX3_dove_26 : decode cX3_dove 26 = .ok (.getfield 10, 3) := by decide +kernel
theorem dX3_dove_29 : decode cX3_dove 29 = .ok (.getfield 173, 3) := by decide +kernel
theorem dX3_dove_32 : decode cX3_dove 32 = .ok (.iload_n 2, 1) := by decide +kernel
theorem dX3_dove_33 : decode cX3_dove 33 = .ok (.aaload, 1) := by decide +kernel
theorem dX3_dove_34 : decode cX3_dove 34 = .ok (.iload_n 1, 1) := by decide +kernel
theorem dX3_dove_35 : decode cX3_dove 35 = .ok (.iaload, 1) := by decide +kernel
theorem dX3_dove_36 : decode cX3_dove 36 = .ok (.ireturn, 1) := by decide +kernel
set_option maxRecDepth 20000 in
theorem ggX3_hole_X3_needHole : GoodIn wsX3_hole wsX3_needHole := goodIn_ca (goodIn_r _ [7, 8, 9, 10, 11, 6, 12] (by decide +kernel) (by decide +kernel)) (goodIn_sub (fun _ h => List.mem_cons_of_mem _ (List.mem_append_right _ h)) (by decide +kernel))
set_option maxRecDepth 20000 in
theorem gX3_hole_X3_needHole : GoodIn wsX3_hole (va_wsS RX3 48 yX3_needHole wsX3_needHole) := goodIn_app (goodIn_of _ (by decide +kernel)) ggX3_hole_X3_needHole
theorem dX3_hole_0 : decode cX3_hole 0 = .ok (.iload_n 1, 1) := by decide +kernel
theorem dX3_hole_1 : decode cX3_hole 1 = .ok (.invokestatic 48, 3) := by decide +kernel
theorem dX3_hole_4 : decode cX3_hole 4 = .ok (.iload_n 2, 1) := by decide +kernel
theorem dX3_hole_5 : decode cX3_hole 5 = .ok (.ifCond .lt 8, 3) := by decide +kernel
theorem dX3_hole_8 : decode cX3_hole 8 = .ok (.iload_n 2, 1) := by decide +kernel
theorem dX3_hole_9 : decode cX3_hole 9 = .ok (.iconst 3, 1) := by decide +kernel
theorem dX3_hole_10 : decode cX3_hole 10 = .ok (.if_icmp .lt 13, 3) := by decide +kernel
theorem dX3_hole_13 : decode cX3_hole 13 = .ok (.new 52, 3) := by decide +kernel
theorem dX3_hole_16 : decode cX3_hole 16 = .ok (.dup, 1) := by decide +kernel
theorem dX3_hole_17 : decode cX3_hole 17 = .ok (.ldc 177, 2) := by decide +kernel
theorem dX3_hole_19 : decode cX3_hole 19 = .ok (.invokespecial 56, 3) := by decide +kernel
theorem dX3_hole_22 : decode cX3_hole 22 = .ok (.athrow, 1) := by decide +kernel
theorem dX3_hole_23 : decode cX3_hole 23 = .ok (.aload_n 0, 1) := by decide +kernel
theorem dX3_hole_24 : decode cX3_hole 24 = .ok (.getfield 10, 3) := by decide +kernel
theorem dX3_hole_27 : decode cX3_hole 27 = .ok (.getfield 179, 3) := by decide +kernel
theorem dX3_hole_30 : decode cX3_hole 30 = .ok (.iload_n 2, 1) := by decide +kernel
theorem dX3_hole_31 : decode cX3_hole 31 = .ok (.aaload, 1) := by decide +kernel
theorem dX3_hole_32 : decode cX3_hole 32 = .ok (.iload_n 1, 1) := by decide +kernel
theorem dX3_hole_33 : decode cX3_hole 33 = .ok (.iaload, 1) := by decide +kernel
theorem dX3_hole_34 : decode cX3_hole 34 = .ok (.ireturn, 1) := by decide +kernel
set_option maxRecDepth 20000 in
theorem ggX3_count_X0_numberOf : GoodIn wsX3_count wsX0_numberOf := goodIn_r _ [9, 10, 11, 12, 13, 14, 15, 16, 17, 18, 8, 19, 20, 21, 22, 23, 24, 25, 26, 27, 28, 29, 30, 31, 32, 33, 34, 35, 36, 37, 38, 39, 40, 41, 42, 43, 44, 45, 46, 47, 48, 49, 50, 51, 52, 62, 63, 64, 65, 66, 67, 68, 69, 70, 71] (by decide +kernel) (by decide +kernel)
set_option maxRecDepth 20000 in
theorem gX3_count_X0_numberOf : GoodIn wsX3_count (wsV RX3 184 RX0 yX0_numberOf wsX0_numberOf) := goodIn_app (goodIn_of _ (by decide +kernel)) ggX3_count_X0_numberOf
theorem dX3_count_0 : decode cX3_count 0 = .ok (.iload_n 1, 1) := by decide +kernel
theorem dX3_count_1 : decode cX3_count 1 = .ok (.ifCond .lt 9, 3) := by decide +kernel
theorem dX3_count_4 : decode cX3_count 4 = .ok (.iload_n 1, 1) := by decide +kernel
theorem dX3_count_5 : decode cX3_count 5 = .ok (.bipush 18, 2) := by decide +kernel
theorem dX3_count_7 : decode cX3_count 7 = .ok (.if_icmp .lt 13, 3) := by decide +kernel
theorem dX3_count_10 : decode cX3_count 10 = .ok (.new 52, 3) := by decide +kernel
theorem dX3_count_13 : decode cX3_count 13 = .ok (.dup, 1) := by decide +kernel
theorem dX3_count_14 : decode cX3_count 14 = .ok (.ldc 182, 2) := by decide +kernel
theorem dX3_count_16 : decode cX3_count 16 = .ok (.invokespecial 56, 3) := by decide +kernel
theorem dX3_count_19 : decode cX3_count 19 = .ok (.athrow, 1) := by decide +kernel
theorem dX3_count_20 : decode cX3_count 20 = .ok (.iload_n 1, 1) := by decide +kernel
theorem dX3_count_21 : decode cX3_count 21 = .ok (.bipush 17, 2) := by decide +kernel
theorem dX3_count_23 : decode cX3_count 23 = .ok (.if_icmp .ne 10, 3) := by decide +kernel
theorem dX3_count_26 : decode cX3_count 26 = .ok (.aload_n 0, 1) := by decide +kernel
theorem dX3_count_27 : decode cX3_count 27 = .ok (.getfield 30, 3) := by decide +kernel
theorem dX3_count_30 : decode cX3_count 30 = .ok (.goto 11, 3) := by decide +kernel
theorem dX3_count_33 : decode cX3_count 33 = .ok (.aload_n 0, 1) := by decide +kernel
theorem dX3_count_34 : decode cX3_count 34 = .ok (.getfield 10, 3) := by decide +kernel
theorem dX3_count_37 : decode cX3_count 37 = .ok (.iload_n 1, 1) := by decide +kernel
theorem dX3_count_38 : decode cX3_count 38 = .ok (.invokevirtual 184, 3) := by decide +kernel
theorem dX3_count_41 : decode cX3_count 41 = .ok (.ireturn, 1) := by decide +kernel
