
set_option maxRecDepth 20000 in
theorem ggX3_init_X0_init : GoodIn wsX3_init wsX0_init := goodIn_r _ [22, 23, 2, 3, 24, 13, 25, 26, 27, 28, 29, 30, 31, 32, 33, 34, 35, 36, 37, 38, 39, 40, 49, 50, 51, 52, 53, 54, 55, 56, 57, 58, 72, 73, 74] (by decide +kernel) (by decide +kernel)
set_option maxRecDepth 20000 in
theorem gX3_init_X0_init : GoodIn wsX3_init (wsX0_init) := ggX3_init_X0_init
set_option maxRecDepth 20000 in
theorem ggX3_init_X1_init : GoodIn wsX3_init wsX1_init := goodIn_r _ [43, 44, 2, 3, 45, 46, 47, 48, 68, 69, 70, 71] (by decide +kernel) (by decide +kernel)
set_option maxRecDepth 20000 in
theorem gX3_init_X1_init : GoodIn wsX3_init (wsX1_init) := ggX3_init_X1_init
theorem dX3_init_0 : decode cX3_init 0 = .ok (.aload_n 0, 1) := by decide +kernel
theorem dX3_init_1 : decode cX3_init 1 = .ok (.invokespecial 1, 3) := by decide +kernel
theorem dX3_init_4 : decode cX3_init 4 = .ok (.aload_n 0, 1) := by decide +kernel
theorem dX3_init_5 : decode cX3_init 5 = .ok (.new 7, 3) := by decide +kernel
theorem dX3_init_8 : decode cX3_init 8 = .ok (.dup, 1) := by decide +kernel
theorem dX3_init_9 : decode cX3_init 9 = .ok (.invokespecial 9, 3) := by decide +kernel
theorem dX3_init_12 : decode cX3_init 12 = .ok (.putfield 10, 3) := by decide +kernel
theorem dX3_init_15 : decode cX3_init 15 = .ok (.aload_n 0, 1) := by decide +kernel
theorem dX3_init_16 : decode cX3_init 16 = .ok (.new 7, 3) := by decide +kernel
theorem dX3_init_19 : decode cX3_init 19 = .ok (.dup, 1) := by decide +kernel
theorem dX3_init_20 : decode cX3_init 20 = .ok (.invokespecial 9, 3) := by decide +kernel
theorem dX3_init_23 : decode cX3_init 23 = .ok (.putfield 16, 3) := by decide +kernel
theorem dX3_init_26 : decode cX3_init 26 = .ok (.aload_n 0, 1) := by decide +kernel
theorem dX3_init_27 : decode cX3_init 27 = .ok (.new 7, 3) := by decide +kernel
theorem dX3_init_30 : decode cX3_init 30 = .ok (.dup, 1) := by decide +kernel
theorem dX3_init_31 : decode cX3_init 31 = .ok (.invokespecial 9, 3) := by decide +kernel
theorem dX3_init_34 : decode cX3_init 34 = .ok (.putfield 19, 3) := by decide +kernel
theorem dX3_init_37 : decode cX3_init 37 = .ok (.aload_n 0, 1) := by decide +kernel
theorem dX3_init_38 : decode cX3_init 38 = .ok (.iconst 0, 1) := by decide +kernel
theorem dX3_init_39 : decode cX3_init 39 = .ok (.putfield 22, 3) := by decide +kernel
theorem dX3_init_42 : decode cX3_init 42 = .ok (.aload_n 0, 1) := by decide +kernel
theorem dX3_init_43 : decode cX3_init 43 = .ok (.bipush 6, 2) := by decide +kernel
theorem dX3_init_45 : decode cX3_init 45 = .ok (.anewarray 7, 3) := by decide +kernel
theorem dX3_init_48 : decode cX3_init 48 = .ok (.putfield 26, 3) := by decide +kernel
theorem dX3_init_51 : decode cX3_init 51 = .ok (.iconst 0, 1) := by decide +kernel
theorem dX3_init_52 : decode cX3_init 52 = .ok (.istore_n 1, 1) := by decide +kernel
theorem dX3_init_53 : decode cX3_init 53 = .ok (.iload_n 1, 1) := by decide +kernel
theorem dX3_init_54 : decode cX3_init 54 = .ok (.bipush 6, 2) := by decide +kernel
theorem dX3_init_56 : decode cX3_init 56 = .ok (.if_icmp .ge 22, 3) := by decide +kernel
theorem dX3_init_59 : decode cX3_init 59 = .ok (.aload_n 0, 1) := by decide +kernel
theorem dX3_init_60 : decode cX3_init 60 = .ok (.getfield 26, 3) := by decide +kernel
theorem dX3_init_63 : decode cX3_init 63 = .ok (.iload_n 1, 1) := by decide +kernel
theorem dX3_init_64 : decode cX3_init 64 = .ok (.new 7, 3) := by decide +kernel
theorem dX3_init_67 : decode cX3_init 67 = .ok (.dup, 1) := by decide +kernel
theorem dX3_init_68 : decode cX3_init 68 = .ok (.invokespecial 9, 3) := by decide +kernel
theorem dX3_init_71 : decode cX3_init 71 = .ok (.aastore, 1) := by decide +kernel
theorem dX3_init_72 : decode cX3_init 72 = .ok (.iinc 1 1, 3) := by decide +kernel
theorem dX3_init_75 : decode cX3_init 75 = .ok (.goto (-22), 3) := by decide +kernel
theorem dX3_init_78 : decode cX3_init 78 = .ok (.aload_n 0, 1) := by decide +kernel
theorem dX3_init_79 : decode cX3_init 79 = .ok (.iconst 0, 1) := by decide +kernel
theorem dX3_init_80 : decode cX3_init 80 = .ok (.putfield 30, 3) := by decide +kernel
theorem dX3_init_83 : decode cX3_init 83 = .ok (.aload_n 0, 1) := by decide +kernel
theorem dX3_init_84 : decode cX3_init 84 = .ok (.bipush 60, 2) := by decide +kernel
theorem dX3_init_86 : decode cX3_init 86 = .ok (.newarray .int, 2) := by decide +kernel
theorem dX3_init_88 : decode cX3_init 88 = .ok (.putfield 34, 3) := by decide +kernel
theorem dX3_init_91 : decode cX3_init 91 = .ok (.aload_n 0, 1) := by decide +kernel
theorem dX3_init_92 : decode cX3_init 92 = .ok (.iconst 0, 1) := by decide +kernel
theorem dX3_init_93 : decode cX3_init 93 = .ok (.putfield 38, 3) := by decide +kernel
theorem dX3_init_96 : decode cX3_init 96 = .ok (.aload_n 0, 1) := by decide +kernel
theorem dX3_init_97 : decode cX3_init 97 = .ok (.new 41, 3) := by decide +kernel
theorem dX3_init_100 : decode cX3_init 100 = .ok (.dup, 1) := by decide +kernel
theorem dX3_init_101 : decode cX3_init 101 = .ok (.invokespecial 43, 3) := by decide +kernel
theorem dX3_init_104 : decode cX3_init 104 = .ok (.putfield 44, 3) := by decide +kernel
theorem dX3_init_107 : decode cX3_init 107 = .ok (.return_, 1) := by decide +kernel
set_option maxRecDepth 20000 in
theorem ggX3_buy_X3_needHole : GoodIn wsX3_buy wsX3_needHole := goodIn_ca (goodIn_r _ [9, 10, 11, 12, 13, 8, 14] (by decide +kernel) (by decide +kernel)) (goodIn_sub (fun _ h => List.mem_cons_of_mem _ (List.mem_append_right _ h)) (by decide +kernel))
set_option maxRecDepth 20000 in
theorem gX3_buy_X3_needHole : GoodIn wsX3_buy (va_wsS RX3 48 yX3_needHole wsX3_needHole) := goodIn_app (goodIn_of _ (by decide +kernel)) ggX3_buy_X3_needHole
set_option maxRecDepth 20000 in
theorem ggX3_buy_X0_reasonNotToBuy : GoodIn wsX3_buy wsX0_reasonNotToBuy := goodIn_r _ [19, 20, 21, 22, 23, 18, 24, 25, 26, 27, 28, 29, 13, 8, 14, 30, 31, 32, 33, 78, 79, 80, 81, 82, 83, 84, 85, 86, 87] (by decide +kernel) (by decide +kernel)
set_option maxRecDepth 20000 in
theorem gX3_buy_X0_reasonNotToBuy : GoodIn wsX3_buy (wsV RX3 59 RX0 yX0_reasonNotToBuy wsX0_reasonNotToBuy) := goodIn_app (goodIn_of _ (by decide +kernel)) ggX3_buy_X0_reasonNotToBuy
set_option maxRecDepth 20000 in
theorem ggX3_buy_X3_save : GoodIn wsX3_buy wsX3_save := goodIn_r _ [37, 38, 39, 5, 40, 41, 42, 18, 43, 29, 44, 45, 46, 47, 20, 48, 49, 50, 51, 52, 53, 54, 55, 56, 57, 58, 59, 60, 61, 62, 63, 64, 69, 70, 71, 72, 73, 74, 75, 76, 77, 78, 79, 80, 81, 82, 83, 84, 85, 86, 87, 88, 89, 90] (by decide +kernel) (by decide +kernel)
set_option maxRecDepth 20000 in
theorem gX3_buy_X3_save : GoodIn wsX3_buy (wsV RX3 68 RX3 yX3_save wsX3_save) := goodIn_app (goodIn_of _ (by decide +kernel)) ggX3_buy_X3_save
set_option maxRecDepth 20000 in
theorem ggX3_buy_X0_addDove : GoodIn wsX3_buy wsX0_addDove := goodIn_r _ [68, 29, 20, 25, 26, 27, 18, 28, 78, 79, 80, 81, 82, 83, 84, 85, 86, 87] (by decide +kernel) (by decide +kernel)
set_option maxRecDepth 20000 in
theorem gX3_buy_X0_addDove : GoodIn wsX3_buy (wsV RX3 71 RX0 yX0_addDove wsX0_addDove) := goodIn_app (goodIn_of _ (by decide +kernel)) ggX3_buy_X0_addDove
theorem dX3_buy_0 : decode cX3_buy 0 = .ok (.iload_n 1, 1) := by decide +kernel
theorem dX3_buy_1 : decode cX3_buy 1 = .ok (.invokestatic 48, 3) := by decide +kernel
theorem dX3_buy_4 : decode cX3_buy 4 = .ok (.iload_n 2, 1) := by decide +kernel
theorem dX3_buy_5 : decode cX3_buy 5 = .ok (.iconst 1, 1) := by decide +kernel
theorem dX3_buy_6 : decode cX3_buy 6 = .ok (.if_icmp .lt 9, 3) := by decide +kernel
theorem dX3_buy_9 : decode cX3_buy 9 = .ok (.iload_n 2, 1) := by decide +kernel
theorem dX3_buy_10 : decode cX3_buy 10 = .ok (.bipush 9, 2) := by decide +kernel
theorem dX3_buy_12 : decode cX3_buy 12 = .ok (.if_icmp .le 13, 3) := by decide +kernel
theorem dX3_buy_15 : decode cX3_buy 15 = .ok (.new 52, 3) := by decide +kernel
theorem dX3_buy_18 : decode cX3_buy 18 = .ok (.dup, 1) := by decide +kernel
theorem dX3_buy_19 : decode cX3_buy 19 = .ok (.ldc 54, 2) := by decide +kernel
theorem dX3_buy_21 : decode cX3_buy 21 = .ok (.invokespecial 56, 3) := by decide +kernel
theorem dX3_buy_24 : decode cX3_buy 24 = .ok (.athrow, 1) := by decide +kernel
theorem dX3_buy_25 : decode cX3_buy 25 = .ok (.aload_n 0, 1) := by decide +kernel
theorem dX3_buy_26 : decode cX3_buy 26 = .ok (.getfield 10, 3) := by decide +kernel
theorem dX3_buy_29 : decode cX3_buy 29 = .ok (.iload_n 1, 1) := by decide +kernel
theorem dX3_buy_30 : decode cX3_buy 30 = .ok (.invokevirtual 59, 3) := by decide +kernel
theorem dX3_buy_33 : decode cX3_buy 33 = .ok (.ifCond .eq 13, 3) := by decide +kernel
theorem dX3_buy_36 : decode cX3_buy 36 = .ok (.new 63, 3) := by decide +kernel
theorem dX3_buy_39 : decode cX3_buy 39 = .ok (.dup, 1) := by decide +kernel
theorem dX3_buy_40 : decode cX3_buy 40 = .ok (.ldc 65, 2) := by decide +kernel
theorem dX3_buy_42 : decode cX3_buy 42 = .ok (.invokespecial 67, 3) := by decide +kernel
theorem dX3_buy_45 : decode cX3_buy 45 = .ok (.athrow, 1) := by decide +kernel
theorem dX3_buy_46 : decode cX3_buy 46 = .ok (.aload_n 0, 1) := by decide +kernel
theorem dX3_buy_47 : decode cX3_buy 47 = .ok (.invokevirtual 68, 3) := by decide +kernel
theorem dX3_buy_50 : decode cX3_buy 50 = .ok (.aload_n 0, 1) := by decide +kernel
theorem dX3_buy_51 : decode cX3_buy 51 = .ok (.getfield 10, 3) := by decide +kernel
theorem dX3_buy_54 : decode cX3_buy 54 = .ok (.iload_n 1, 1) := by decide +kernel
theorem dX3_buy_55 : decode cX3_buy 55 = .ok (.iload_n 2, 1) := by decide +kernel
theorem dX3_buy_56 : decode cX3_buy 56 = .ok (.invokevirtual 71, 3) := by decide +kernel
theorem dX3_buy_59 : decode cX3_buy 59 = .ok (.ireturn, 1) := by decide +kernel
set_option maxRecDepth 20000 in
theorem ggX3_sell_X3_needDove : GoodIn wsX3_sell wsX3_needDove := goodIn_ca (goodIn_r _ [6, 7, 8, 1, 9, 10, 11, 12, 13, 14, 54, 55, 56, 57, 58, 59, 60, 61, 62, 63, 64, 65, 66, 67, 68, 69, 70, 71, 72] (by decide +kernel) (by decide +kernel)) (goodIn_sub (fun _ h => List.mem_cons_of_mem _ (List.mem_append_right _ h)) (by decide +kernel))
set_option maxRecDepth 20000 in
theorem gX3_sell_X3_needDove : GoodIn wsX3_sell (wsV RX3 75 RX3 yX3_needDove wsX3_needDove) := goodIn_app (goodIn_of _ (by decide +kernel)) ggX3_sell_X3_needDove
set_option maxRecDepth 20000 in
theorem ggX3_sell_X3_save : GoodIn wsX3_sell wsX3_save := goodIn_r _ [18, 19, 20, 1, 21, 22, 23, 12, 24, 14, 25, 26, 27, 28, 29, 30, 31, 32, 33, 34, 35, 36, 37, 38, 39, 40, 41, 42, 43, 44, 45, 46, 54, 55, 56, 57, 58, 59, 60, 61, 62, 63, 64, 65, 66, 67, 68, 69, 70, 71, 72, 73, 74, 75] (by decide +kernel) (by decide +kernel)
set_option maxRecDepth 20000 in
theorem gX3_sell_X3_save : GoodIn wsX3_sell (wsV RX3 68 RX3 yX3_save wsX3_save) := goodIn_app (goodIn_of _ (by decide +kernel)) ggX3_sell_X3_save
set_option maxRecDepth 20000 in
theorem ggX3_sell_X0_removeDove : GoodIn wsX3_sell wsX0_removeDove := goodIn_r _ [50, 14, 29, 51, 5, 52, 53, 10, 11, 12, 13, 63, 64, 65, 66, 67, 68, 69, 70, 71, 72] (by decide +kernel) (by decide +kernel)
set_option maxRecDepth 20000 in
theorem gX3_sell_X0_removeDove : GoodIn wsX3_sell (wsV RX3 78 RX0 yX0_removeDove wsX0_removeDove) := goodIn_app (goodIn_of _ (by decide +kernel)) ggX3_sell_X0_removeDove
theorem dX3_sell_0 : decode cX3_sell 0 = .ok (.aload_n 0, 1) := by decide +kernel
theorem dX3_sell_1 : decode cX3_sell 1 = .ok (.iload_n 1, 1) := by decide +kernel
theorem dX3_sell_2 : decode cX3_sell 2 = .ok (.invokevirtual 75, 3) := by decide +kernel
theorem dX3_sell_5 : decode cX3_sell 5 = .ok (.aload_n 0, 1) := by decide +kernel
theorem dX3_sell_6 : decode cX3_sell 6 = .ok (.invokevirtual 68, 3) := by decide +kernel
theorem dX3_sell_9 : decode cX3_sell 9 = .ok (.aload_n 0, 1) := by decide +kernel
theorem dX3_sell_10 : decode cX3_sell 10 = .ok (.getfield 10, 3) := by decide +kernel
theorem dX3_sell_13 : decode cX3_sell 13 = .ok (.iload_n 1, 1) := by decide +kernel
theorem dX3_sell_14 : decode cX3_sell 14 = .ok (.invokevirtual 78, 3) := by decide +kernel
theorem dX3_sell_17 : decode cX3_sell 17 = .ok (.ireturn, 1) := by decide +kernel
set_option maxRecDepth 20000 in
theorem ggX3_mate_X3_needDove : GoodIn wsX3_mate wsX3_needDove := goodIn_ca (goodIn_r _ [8, 9, 10, 3, 11, 12, 13, 14, 15, 16, 62, 63, 64, 65, 66, 67, 68, 69, 70, 71, 72, 73, 74, 75, 76, 77, 78, 79, 80] (by decide +kernel) (by decide +kernel)) (goodIn_sub (fun _ h => List.mem_cons_of_mem _ (List.mem_append_right _ h)) (by decide +kernel))
set_option maxRecDepth 20000 in
theorem gX3_mate_X3_needDove : GoodIn wsX3_mate (wsV RX3 75 RX3 yX3_needDove wsX3_needDove) := goodIn_app (goodIn_of _ (by decide +kernel)) ggX3_mate_X3_needDove
set_option maxRecDepth 20000 in
theorem ggX3_mate_X0_reasonNotToPair : GoodIn wsX3_mate wsX0_reasonNotToPair := goodIn_r _ [20, 16, 71, 72, 73, 74, 75, 76, 77, 78, 79, 80] (by decide +kernel) (by decide +kernel)
set_option maxRecDepth 20000 in
theorem gX3_mate_X0_reasonNotToPair : GoodIn wsX3_mate (wsV RX3 81 RX0 yX0_reasonNotToPair wsX0_reasonNotToPair) := goodIn_app (goodIn_of _ (by decide +kernel)) ggX3_mate_X0_reasonNotToPair
set_option maxRecDepth 20000 in
theorem ggX3_mate_X3_save : GoodIn wsX3_mate wsX3_save := goodIn_r _ [24, 25, 26, 3, 27, 28, 29, 14, 30, 16, 31, 32, 33, 34, 35, 36, 37, 38, 39, 40, 41, 42, 43, 44, 45, 46, 47, 48, 49, 50, 51, 52, 62, 63, 64, 65, 66, 67, 68, 69, 70, 71, 72, 73, 74, 75, 76, 77, 78, 79, 80, 81, 82, 83] (by decide +kernel) (by decide +kernel)
set_option maxRecDepth 20000 in
theorem gX3_mate_X3_save : GoodIn wsX3_mate (wsV RX3 68 RX3 yX3_save wsX3_save) := goodIn_app (goodIn_of _ (by decide +kernel)) ggX3_mate_X3_save
set_option maxRecDepth 20000 in
theorem ggX3_mate_X0_pair : GoodIn wsX3_mate wsX0_pair := goodIn_r _ [56, 16, 71, 72, 73, 74, 75, 76, 77, 78, 79, 80] (by decide +kernel) (by decide +kernel)
set_option maxRecDepth 20000 in
theorem gX3_mate_X0_pair : GoodIn wsX3_mate (wsV RX3 86 RX0 yX0_pair wsX0_pair) := goodIn_app (goodIn_of _ (by decide +kernel)) ggX3_mate_X0_pair
set_option maxRecDepth 20000 in
theorem ggX3_mate_X0_pairs : GoodIn wsX3_mate wsX0_pairs := goodIn_r _ [60, 16, 61, 12, 13, 14, 15, 71, 72, 73, 74, 75, 76, 77, 78, 79, 80] (by decide +kernel) (by decide +kernel)
set_option maxRecDepth 20000 in
theorem gX3_mate_X0_pairs : GoodIn wsX3_mate (wsV RX3 90 RX0 yX0_pairs wsX0_pairs) := goodIn_app (goodIn_of _ (by decide +kernel)) ggX3_mate_X0_pairs
theorem dX3_mate_0 : decode cX3_mate 0 = .ok (.aload_n 0, 1) := by decide +kernel
theorem dX3_mate_1 : decode cX3_mate 1 = .ok (.iload_n 1, 1) := by decide +kernel
theorem dX3_mate_2 : decode cX3_mate 2 = .ok (.invokevirtual 75, 3) := by decide +kernel
theorem dX3_mate_5 : decode cX3_mate 5 = .ok (.aload_n 0, 1) := by decide +kernel
theorem dX3_mate_6 : decode cX3_mate 6 = .ok (.iload_n 2, 1) := by decide +kernel
theorem dX3_mate_7 : decode cX3_mate 7 = .ok (.invokevirtual 75, 3) := by decide +kernel
theorem dX3_mate_10 : decode cX3_mate 10 = .ok (.aload_n 0, 1) := by decide +kernel
theorem dX3_mate_11 : decode cX3_mate 11 = .ok (.getfield 10, 3) := by decide +kernel
theorem dX3_mate_14 : decode cX3_mate 14 = .ok (.iload_n 1, 1) := by decide +kernel
theorem dX3_mate_15 : decode cX3_mate 15 = .ok (.iload_n 2, 1) := by decide +kernel
theorem dX3_mate_16 : decode cX3_mate 16 = .ok (.invokevirtual 81, 3) := by decide +kernel
theorem dX3_mate_19 : decode cX3_mate 19 = .ok (.ifCond .eq 13, 3) := by decide +kernel
theorem dX3_mate_22 : decode cX3_mate 22 = .ok (.new 63, 3) := by decide +kernel
theorem dX3_mate_25 : decode cX3_mate 25 = .ok (.dup, 1) := by decide +kernel
theorem dX3_mate_26 : decode cX3_mate 26 = .ok (.ldc 84, 2) := by decide +kernel
theorem dX3_mate_28 : decode cX3_mate 28 = .ok (.invokespecial 67, 3) := by decide +kernel
theorem dX3_mate_31 : decode cX3_mate 31 = .ok (.athrow, 1) := by decide +kernel
theorem dX3_mate_32 : decode cX3_mate 32 = .ok (.aload_n 0, 1) := by decide +kernel
theorem dX3_mate_33 : decode cX3_mate 33 = .ok (.invokevirtual 68, 3) := by decide +kernel
theorem dX3_mate_36 : decode cX3_mate 36 = .ok (.aload_n 0, 1) := by decide +kernel
theorem dX3_mate_37 : decode cX3_mate 37 = .ok (.getfield 10, 3) := by decide +kernel
theorem dX3_mate_40 : decode cX3_mate 40 = .ok (.iload_n 1, 1) := by decide +kernel
theorem dX3_mate_41 : decode cX3_mate 41 = .ok (.iload_n 2, 1) := by decide +kernel
theorem dX3_mate_42 : decode cX3_mate 42 = .ok (.invokevirtual 86, 3) := by decide +kernel
theorem dX3_mate_45 : decode cX3_mate 45 = .ok (.aload_n 0, 1) := by decide +kernel
theorem dX3_mate_46 : decode cX3_mate 46 = .ok (.getfield 10, 3) := by decide +kernel
theorem dX3_mate_49 : decode cX3_mate 49 = .ok (.invokevirtual 90, 3) := by decide +kernel
theorem dX3_mate_52 : decode cX3_mate 52 = .ok (.ireturn, 1) := by decide +kernel
set_option maxRecDepth 20000 in
theorem ggX3_shut_X3_needHole : GoodIn wsX3_shut wsX3_needHole := goodIn_ca (goodIn_r _ [7, 8, 9, 10, 11, 6, 12] (by decide +kernel) (by decide +kernel)) (goodIn_sub (fun _ h => List.mem_cons_of_mem _ (List.mem_append_right _ h)) (by decide +kernel))
set_option maxRecDepth 20000 in
theorem gX3_shut_X3_needHole : GoodIn wsX3_shut (va_wsS RX3 48 yX3_needHole wsX3_needHole) := goodIn_app (goodIn_of _ (by decide +kernel)) ggX3_shut_X3_needHole
set_option maxRecDepth 20000 in
theorem ggX3_shut_X0_reasonNotToShut : GoodIn wsX3_shut wsX0_reasonNotToShut := goodIn_r _ [17, 18, 11, 6, 12, 19, 20, 21, 16, 22, 72, 73, 74, 75, 76, 77, 78, 79, 80, 81] (by decide +kernel) (by decide +kernel)
set_option maxRecDepth 20000 in
theorem gX3_shut_X0_reasonNotToShut : GoodIn wsX3_shut (wsV RX3 94 RX0 yX0_reasonNotToShut wsX0_reasonNotToShut) := goodIn_app (goodIn_of _ (by decide +kernel)) ggX3_shut_X0_reasonNotToShut
set_option maxRecDepth 20000 in
theorem ggX3_shut_X3_save : GoodIn wsX3_shut wsX3_save := goodIn_r _ [26, 27, 28, 3, 29, 30, 31, 16, 32, 33, 34, 35, 36, 37, 18, 38, 39, 40, 41, 42, 43, 44, 45, 46, 47, 48, 49, 50, 51, 52, 53, 54, 63, 64, 65, 66, 67, 68, 69, 70, 71, 72, 73, 74, 75, 76, 77, 78, 79, 80, 81, 82, 83, 84] (by decide +kernel) (by decide +kernel)
set_option maxRecDepth 20000 in
theorem gX3_shut_X3_save : GoodIn wsX3_shut (wsV RX3 68 RX3 yX3_save wsX3_save) := goodIn_app (goodIn_of _ (by decide +kernel)) ggX3_shut_X3_save
set_option maxRecDepth 20000 in
theorem ggX3_shut_X0_setOpen : GoodIn wsX3_shut wsX0_setOpen := goodIn_r _ [58, 18, 11, 6, 12, 72, 73, 74, 75, 76, 77, 78, 79, 80, 81] (by decide +kernel) (by decide +kernel)
set_option maxRecDepth 20000 in
theorem gX3_shut_X0_setOpen : GoodIn wsX3_shut (wsV RX3 99 RX0 yX0_setOpen wsX0_setOpen) := goodIn_app (goodIn_of _ (by decide +kernel)) ggX3_shut_X0_setOpen
set_option maxRecDepth 20000 in
theorem ggX3_shut_X0_openHoles : GoodIn wsX3_shut wsX0_openHoles := goodIn_r _ [62, 19, 20, 21, 16, 22, 18, 11, 6, 12, 72, 73, 74, 75, 76, 77, 78, 79, 80, 81] (by decide +kernel) (by decide +kernel)
set_option maxRecDepth 20000 in
theorem gX3_shut_X0_openHoles : GoodIn wsX3_shut (wsV RX3 102 RX0 yX0_openHoles wsX0_openHoles) := goodIn_app (goodIn_of _ (by decide +kernel)) ggX3_shut_X0_openHoles
theorem dX3_shut_0 : decode cX3_shut 0 = .ok (.iload_n 1, 1) := by decide +kernel
theorem dX3_shut_1 : decode cX3_shut 1 = .ok (.invokestatic 48, 3) := by decide +kernel
theorem dX3_shut_4 : decode cX3_shut 4 = .ok (.aload_n 0, 1) := by decide +kernel
theorem dX3_shut_5 : decode cX3_shut 5 = .ok (.getfield 10, 3) := by decide +kernel
theorem dX3_shut_8 : decode cX3_shut 8 = .ok (.iload_n 1, 1) := by decide +kernel
theorem dX3_shut_9 : decode cX3_shut 9 = .ok (.invokevirtual 94, 3) := by decide +kernel
theorem dX3_shut_12 : decode cX3_shut 12 = .ok (.ifCond .eq 13, 3) := by decide +kernel
theorem dX3_shut_15 : decode cX3_shut 15 = .ok (.new 63, 3) := by decide +kernel
theorem dX3_shut_18 : decode cX3_shut 18 = .ok (.dup, 1) := by decide +kernel
theorem dX3_shut_19 : decode cX3_shut 19 = .ok (.ldc 97, 2) := by decide +kernel
theorem dX3_shut_21 : decode cX3_shut 21 = .ok (.invokespecial 67, 3) := by decide +kernel
theorem dX3_shut_24 : decode cX3_shut 24 = .ok (.athrow, 1) := by decide +kernel
theorem dX3_shut_25 : decode cX3_shut 25 = .ok (.aload_n 0, 1) := by decide +kernel
theorem dX3_shut_26 : decode cX3_shut 26 = .ok (.invokevirtual 68, 3) := by decide +kernel
theorem dX3_shut_29 : decode cX3_shut 29 = .ok (.aload_n 0, 1) := by decide +kernel
theorem dX3_shut_30 : decode cX3_shut 30 = .ok (.getfield 10, 3) := by decide +kernel
theorem dX3_shut_33 : decode cX3_shut 33 = .ok (.iload_n 1, 1) := by decide +kernel
theorem dX3_shut_34 : decode cX3_shut 34 = .ok (.iconst 0, 1) := by decide +kernel
theorem dX3_shut_35 : decode cX3_shut 35 = .ok (.invokevirtual 99, 3) := by decide +kernel
theorem dX3_shut_38 : decode cX3_shut 38 = .ok (.aload_n 0, 1) := by decide +kernel
theorem dX3_shut_39 : decode cX3_shut 39 = .ok (.getfield 10, 3) := by decide +kernel
theorem dX3_shut_42 : decode cX3_shut 42 = .ok (.invokevirtual 102, 3) := by decide +kernel
theorem dX3_shut_45 : decode cX3_shut 45 = .ok (.ireturn, 1) := by decide +kernel
set_option maxRecDepth 20000 in
theorem ggX3_open_X3_needHole : GoodIn wsX3_open wsX3_needHole := goodIn_ca (goodIn_r _ [5, 6, 7, 8, 9, 4, 10] (by decide +kernel) (by decide +kernel)) (goodIn_sub (fun _ h => List.mem_cons_of_mem _ (List.mem_append_right _ h)) (by decide +kernel))
set_option maxRecDepth 20000 in
theorem gX3_open_X3_needHole : GoodIn wsX3_open (va_wsS RX3 48 yX3_needHole wsX3_needHole) := goodIn_app (goodIn_of _ (by decide +kernel)) ggX3_open_X3_needHole
set_option maxRecDepth 20000 in
theorem ggX3_open_X3_save : GoodIn wsX3_open wsX3_save := goodIn_r _ [14, 15, 16, 1, 17, 18, 19, 20, 21, 22, 23, 24, 25, 26, 27, 28, 29, 30, 31, 32, 33, 34, 35, 36, 37, 38, 39, 40, 41, 42, 43, 44, 57, 58, 59, 60, 61, 62, 63, 64, 65, 66, 67, 68, 69, 70, 71, 72, 73, 74, 75, 76, 77, 78] (by decide +kernel) (by decide +kernel)
set_option maxRecDepth 20000 in
theorem gX3_open_X3_save : GoodIn wsX3_open (wsV RX3 68 RX3 yX3_save wsX3_save) := goodIn_app (goodIn_of _ (by decide +kernel)) ggX3_open_X3_save
set_option maxRecDepth 20000 in
theorem ggX3_open_X0_setOpen : GoodIn wsX3_open wsX0_setOpen := goodIn_r _ [48, 27, 9, 4, 10, 66, 67, 68, 69, 70, 71, 72, 73, 74, 75] (by decide +kernel) (by decide +kernel)
set_option maxRecDepth 20000 in
theorem gX3_open_X0_setOpen : GoodIn wsX3_open (wsV RX3 99 RX0 yX0_setOpen wsX0_setOpen) := goodIn_app (goodIn_of _ (by decide +kernel)) ggX3_open_X0_setOpen
set_option maxRecDepth 20000 in
theorem ggX3_open_X0_openHoles : GoodIn wsX3_open wsX0_openHoles := goodIn_r _ [52, 53, 54, 55, 20, 56, 27, 9, 4, 10, 66, 67, 68, 69, 70, 71, 72, 73, 74, 75] (by decide +kernel) (by decide +kernel)
set_option maxRecDepth 20000 in
theorem gX3_open_X0_openHoles : GoodIn wsX3_open (wsV RX3 102 RX0 yX0_openHoles wsX0_openHoles) := goodIn_app (goodIn_of _ (by decide +kernel)) ggX3_open_X0_openHoles
theorem dX3_open_0 : decode cX3_open 0 = .ok (.iload_n 1, 1) := by decide +kernel
theorem dX3_open_1 : decode cX3_open 1 = .ok (.invokestatic 48, 3) := by decide +kernel
theorem dX3_open_4 : decode cX3_open 4 = .ok (.aload_n 0, 1) := by decide +kernel
theorem dX3_open_5 : decode cX3_open 5 = .ok (.invokevirtual 68, 3) := by decide +kernel
theorem dX3_open_8 : decode cX3_open 8 = .ok (.aload_n 0, 1) := by decide +kernel
theorem dX3_open_9 : decode cX3_open 9 = .ok (.getfield 10, 3) := by decide +kernel
theorem dX3_open_12 : decode cX3_open 12 = .ok (.iload_n 1, 1) := by decide +kernel
theorem dX3_open_13 : decode cX3_open 13 = .ok (.iconst 1, 1) := by decide +kernel
theorem dX3_open_14 : decode cX3_open 14 = .ok (.invokevirtual 99, 3) := by decide +kernel
theorem dX3_open_17 : decode cX3_open 17 = .ok (.aload_n 0, 1) := by decide +kernel
theorem dX3_open_18 : decode cX3_open 18 = .ok (.getfield 10, 3) := by decide +kernel
theorem dX3_open_21 : decode cX3_open 21 = .ok (.invokevirtual 102, 3) := by decide +kernel
theorem dX3_open_24 : decode cX3_open 24 = .ok (.ireturn, 1) := by decide +kernel
set_option maxRecDepth 20000 in
theorem ggX3_set_X3_save : GoodIn wsX3_set wsX3_save := goodIn_r _ [10, 11, 12, 5, 13, 14, 15, 16, 17, 18, 19, 20, 21, 22, 23, 24, 25, 26, 27, 28, 29, 30, 31, 32, 33, 34, 35, 36, 37, 38, 39, 40, 41, 42, 43, 44, 45, 46, 47, 48, 49, 50, 51, 52, 53, 54, 55, 56, 57, 58, 59, 60, 61, 62] (by decide +kernel) (by decide +kernel)
set_option maxRecDepth 20000 in
theorem gX3_set_X3_save : GoodIn wsX3_set (wsV RX3 68 RX3 yX3_save wsX3_save) := goodIn_app (goodIn_of _ (by decide +kernel)) ggX3_set_X3_save
theorem dX3_set_0 : decode cX3_set 0 = .ok (.iload_n 1, 1) := by decide +kernel
theorem dX3_set_1 : decode cX3_set 1 = .ok (.ifCond .lt 8, 3) := by decide +kernel
theorem dX3_set_4 : decode cX3_set 4 = .ok (.iload_n 1, 1) := by decide +kernel
theorem dX3_set_5 : decode cX3_set 5 = .ok (.iconst 2, 1) := by decide +kernel
theorem dX3_set_6 : decode cX3_set 6 = .ok (.if_icmp .lt 13, 3) := by decide +kernel
theorem dX3_set_9 : decode cX3_set 9 = .ok (.new 105, 3) := by decide +kernel
theorem dX3_set_12 : decode cX3_set 12 = .ok (.dup, 1) := by decide +kernel
theorem dX3_set_13 : decode cX3_set 13 = .ok (.ldc 107, 2) := by decide +kernel
theorem dX3_set_15 : decode cX3_set 15 = .ok (.invokespecial 109, 3) := by decide +kernel
theorem dX3_set_18 : decode cX3_set 18 = .ok (.athrow, 1) := by decide +kernel
theorem dX3_set_19 : decode cX3_set 19 = .ok (.iload_n 1, 1) := by decide +kernel
theorem dX3_set_20 : decode cX3_set 20 = .ok (.ifCond .ne 9, 3) := by decide +kernel
theorem dX3_set_23 : decode cX3_set 23 = .ok (.sipush 1439, 3) := by decide +kernel
theorem dX3_set_26 : decode cX3_set 26 = .ok (.goto 5, 3) := by decide +kernel
theorem dX3_set_29 : decode cX3_set 29 = .ok (.bipush 24, 2) := by decide +kernel
theorem dX3_set_31 : decode cX3_set 31 = .ok (.istore_n 3, 1) := by decide +kernel
theorem dX3_set_32 : decode cX3_set 32 = .ok (.iload_n 2, 1) := by decide +kernel
theorem dX3_set_33 : decode cX3_set 33 = .ok (.ifCond .lt 8, 3) := by decide +kernel
theorem dX3_set_36 : decode cX3_set 36 = .ok (.iload_n 2, 1) := by decide +kernel
theorem dX3_set_37 : decode cX3_set 37 = .ok (.iload_n 3, 1) := by decide +kernel
theorem dX3_set_38 : decode cX3_set 38 = .ok (.if_icmp .le 13, 3) := by decide +kernel
theorem dX3_set_41 : decode cX3_set 41 = .ok (.new 52, 3) := by decide +kernel
theorem dX3_set_44 : decode cX3_set 44 = .ok (.dup, 1) := by decide +kernel
theorem dX3_set_45 : decode cX3_set 45 = .ok (.ldc 110, 2) := by decide +kernel
theorem dX3_set_47 : decode cX3_set 47 = .ok (.invokespecial 56, 3) := by decide +kernel
theorem dX3_set_50 : decode cX3_set 50 = .ok (.athrow, 1) := by decide +kernel
theorem dX3_set_51 : decode cX3_set 51 = .ok (.aload_n 0, 1) := by decide +kernel
theorem dX3_set_52 : decode cX3_set 52 = .ok (.invokevirtual 68, 3) := by decide +kernel
theorem dX3_set_55 : decode cX3_set 55 = .ok (.aload_n 0, 1) := by decide +kernel
theorem dX3_set_56 : decode cX3_set 56 = .ok (.getfield 10, 3) := by decide +kernel
theorem dX3_set_59 : decode cX3_set 59 = .ok (.getfield 112, 3) := by decide +kernel
theorem dX3_set_62 : decode cX3_set 62 = .ok (.iload_n 1, 1) := by decide +kernel
theorem dX3_set_63 : decode cX3_set 63 = .ok (.iaload, 1) := by decide +kernel
theorem dX3_set_64 : decode cX3_set 64 = .ok (.istore 4, 2) := by decide +kernel
theorem dX3_set_66 : decode cX3_set 66 = .ok (.aload_n 0, 1) := by decide +kernel
theorem dX3_set_67 : decode cX3_set 67 = .ok (.getfield 10, 3) := by decide +kernel
theorem dX3_set_70 : decode cX3_set 70 = .ok (.getfield 112, 3) := by decide +kernel
theorem dX3_set_73 : decode cX3_set 73 = .ok (.iload_n 1, 1) := by decide +kernel
theorem dX3_set_74 : decode cX3_set 74 = .ok (.iload_n 2, 1) := by decide +kernel
theorem dX3_set_75 : decode cX3_set 75 = .ok (.iastore, 1) := by decide +kernel
theorem dX3_set_76 : decode cX3_set 76 = .ok (.iload 4, 2) := by decide +kernel
theorem dX3_set_78 : decode cX3_set 78 = .ok (.ireturn, 1) := by decide +kernel
set_option maxRecDepth 20000 in
theorem ggX3_home_X3_needDove : GoodIn wsX3_home wsX3_needDove := goodIn_ca (goodIn_r _ [8, 9, 10, 3, 11, 12, 13, 14, 15, 16, 97, 98, 99, 100, 101, 102, 103, 104, 105, 106, 107, 108, 109, 110, 111, 112, 113, 114, 115] (by decide +kernel) (by decide +kernel)) (goodIn_sub (fun _ h => List.mem_cons_of_mem _ (List.mem_append_left _ (List.mem_append_right _ h))) (by decide +kernel))
set_option maxRecDepth 20000 in
theorem gX3_home_X3_needDove : GoodIn wsX3_home (wsV RX3 75 RX3 yX3_needDove wsX3_needDove) := goodIn_app (goodIn_of _ (by decide +kernel)) ggX3_home_X3_needDove
set_option maxRecDepth 20000 in
theorem ggX3_home_X3_needTime : GoodIn wsX3_home wsX3_needTime := goodIn_ca (goodIn_r _ [19, 20, 21] (by decide +kernel) (by decide +kernel)) (goodIn_sub (fun _ h => List.mem_cons_of_mem _ (List.mem_append_right _ h)) (by decide +kernel))
set_option maxRecDepth 20000 in
theorem gX3_home_X3_needTime : GoodIn wsX3_home (va_wsS RX3 115 yX3_needTime wsX3_needTime) := goodIn_app (goodIn_of _ (by decide +kernel)) ggX3_home_X3_needTime
set_option maxRecDepth 20000 in
theorem ggX3_home_X0_reasonNotHome : GoodIn wsX3_home wsX0_reasonNotHome := goodIn_r _ [25, 16, 26, 106, 107, 108, 109, 110, 111, 112, 113, 114, 115] (by decide +kernel) (by decide +kernel)
set_option maxRecDepth 20000 in
theorem gX3_home_X0_reasonNotHome : GoodIn wsX3_home (wsV RX3 118 RX0 yX0_reasonNotHome wsX0_reasonNotHome) := goodIn_app (goodIn_of _ (by decide +kernel)) ggX3_home_X0_reasonNotHome
set_option maxRecDepth 20000 in
theorem ggX3_home_X3_save : GoodIn wsX3_home wsX3_save := goodIn_r _ [30, 31, 32, 3, 33, 34, 35, 14, 36, 16, 37, 38, 39, 40, 41, 42, 43, 44, 45, 46, 26, 47, 48, 49, 50, 51, 52, 53, 54, 55, 56, 57, 97, 98, 99, 100, 101, 102, 103, 104, 105, 106, 107, 108, 109, 110, 111, 112, 113, 114, 115, 116, 117, 118] (by decide +kernel) (by decide +kernel)
set_option maxRecDepth 20000 in
theorem gX3_home_X3_save : GoodIn wsX3_home (wsV RX3 68 RX3 yX3_save wsX3_save) := goodIn_app (goodIn_of _ (by decide +kernel)) ggX3_home_X3_save
set_option maxRecDepth 20000 in
theorem ggX3_home_X0_comeHome : GoodIn wsX3_home wsX0_comeHome := goodIn_r _ [61, 26, 45, 47, 42, 16, 62, 63, 64, 14, 65, 41, 66, 7, 67, 68, 69, 70, 71, 72, 12, 13, 15, 73, 74, 75, 76, 48, 77, 78, 79, 80, 81, 82, 83, 52, 84, 57, 54, 56, 85, 86, 87, 88, 89, 90, 91, 92, 93, 94, 95, 96, 106, 107, 108, 109, 110, 111, 112, 113, 114, 115, 116, 117, 118] (by decide +kernel) (by decide +kernel)
set_option maxRecDepth 20000 in
theorem gX3_home_X0_comeHome : GoodIn wsX3_home (wsV RX3 123 RX0 yX0_comeHome wsX0_comeHome) := goodIn_app (goodIn_of _ (by decide +kernel)) ggX3_home_X0_comeHome
theorem dX3_home_0 : decode cX3_home 0 = .ok (.aload_n 0, 1) := by decide +kernel
theorem dX3_home_1 : decode cX3_home 1 = .ok (.iload_n 1, 1) := by decide +kernel
theorem dX3_home_2 : decode cX3_home 2 = .ok (.invokevirtual 75, 3) := by decide +kernel
theorem dX3_home_5 : decode cX3_home 5 = .ok (.iload_n 2, 1) := by decide +kernel
theorem dX3_home_6 : decode cX3_home 6 = .ok (.invokestatic 115, 3) := by decide +kernel
theorem dX3_home_9 : decode cX3_home 9 = .ok (.aload_n 0, 1) := by decide +kernel
theorem dX3_home_10 : decode cX3_home 10 = .ok (.getfield 10, 3) := by decide +kernel
theorem dX3_home_13 : decode cX3_home 13 = .ok (.iload_n 1, 1) := by decide +kernel
theorem dX3_home_14 : decode cX3_home 14 = .ok (.iload_n 2, 1) := by decide +kernel
theorem dX3_home_15 : decode cX3_home 15 = .ok (.invokevirtual 118, 3) := by decide +kernel
theorem dX3_home_18 : decode cX3_home 18 = .ok (.ifCond .eq 13, 3) := by decide +kernel
theorem dX3_home_21 : decode cX3_home 21 = .ok (.new 63, 3) := by decide +kernel
theorem dX3_home_24 : decode cX3_home 24 = .ok (.dup, 1) := by decide +kernel
theorem dX3_home_25 : decode cX3_home 25 = .ok (.ldc 121, 2) := by decide +kernel
theorem dX3_home_27 : decode cX3_home 27 = .ok (.invokespecial 67, 3) := by decide +kernel
theorem dX3_home_30 : decode cX3_home 30 = .ok (.athrow, 1) := by decide +kernel
theorem dX3_home_31 : decode cX3_home 31 = .ok (.aload_n 0, 1) := by decide +kernel
theorem dX3_home_32 : decode cX3_home 32 = .ok (.invokevirtual 68, 3) := by decide +kernel
theorem dX3_home_35 : decode cX3_home 35 = .ok (.aload_n 0, 1) := by decide +kernel
theorem dX3_home_36 : decode cX3_home 36 = .ok (.getfield 10, 3) := by decide +kernel
theorem dX3_home_39 : decode cX3_home 39 = .ok (.iload_n 1, 1) := by decide +kernel
theorem dX3_home_40 : decode cX3_home 40 = .ok (.iload_n 2, 1) := by decide +kernel
theorem dX3_home_41 : decode cX3_home 41 = .ok (.invokevirtual 123, 3) := by decide +kernel
theorem dX3_home_44 : decode cX3_home 44 = .ok (.ireturn, 1) := by decide +kernel
set_option maxRecDepth 20000 in
theorem ggX3_dawn_X3_save : GoodIn wsX3_dawn wsX3_save := goodIn_r _ [6, 7, 8, 1, 9, 10, 11, 12, 13, 14, 15, 16, 17, 18, 19, 20, 21, 22, 23, 24, 25, 26, 27, 28, 29, 30, 31, 32, 33, 34, 35, 36, 49, 50, 51, 52, 53, 54, 55, 56, 57, 58, 59, 60, 61, 62, 63, 64, 65, 66, 67, 68, 69, 70] (by decide +kernel) (by decide +kernel)
set_option maxRecDepth 20000 in
theorem gX3_dawn_X3_save : GoodIn wsX3_dawn (wsV RX3 68 RX3 yX3_save wsX3_save) := goodIn_app (goodIn_of _ (by decide +kernel)) ggX3_dawn_X3_save
set_option maxRecDepth 20000 in
theorem ggX3_dawn_X0_endNight : GoodIn wsX3_dawn wsX0_endNight := goodIn_r _ [40, 21, 14, 19, 24, 25, 41, 42, 43, 12, 44, 45, 46, 47, 48, 58, 59, 60, 61, 62, 63, 64, 65, 66, 67] (by decide +kernel) (by decide +kernel)
set_option maxRecDepth 20000 in
theorem gX3_dawn_X0_endNight : GoodIn wsX3_dawn (wsV RX3 126 RX0 yX0_endNight wsX0_endNight) := goodIn_app (goodIn_of _ (by decide +kernel)) ggX3_dawn_X0_endNight
theorem dX3_dawn_0 : decode cX3_dawn 0 = .ok (.aload_n 0, 1) := by decide +kernel
theorem dX3_dawn_1 : decode cX3_dawn 1 = .ok (.invokevirtual 68, 3) := by decide +kernel
theorem dX3_dawn_4 : decode cX3_dawn 4 = .ok (.aload_n 0, 1) := by decide +kernel
theorem dX3_dawn_5 : decode cX3_dawn 5 = .ok (.getfield 10, 3) := by decide +kernel
theorem dX3_dawn_8 : decode cX3_dawn 8 = .ok (.invokevirtual 126, 3) := by decide +kernel
theorem dX3_dawn_11 : decode cX3_dawn 11 = .ok (.ireturn, 1) := by decide +kernel
theorem dX3_append_0 : decode cX3_append 0 = .ok (.iload_n 1, 1) := by decide +kernel
theorem dX3_append_1 : decode cX3_append 1 = .ok (.bipush 33, 2) := by decide +kernel
theorem dX3_append_3 : decode cX3_append 3 = .ok (.if_icmp .lt 9, 3) := by decide +kernel
theorem dX3_append_6 : decode cX3_append 6 = .ok (.iload_n 1, 1) := by decide +kernel
theorem dX3_append_7 : decode cX3_append 7 = .ok (.bipush 126, 2) := by decide +kernel
theorem dX3_append_9 : decode cX3_append 9 = .ok (.if_icmp .le 13, 3) := by decide +kernel
theorem dX3_append_12 : decode cX3_append 12 = .ok (.new 52, 3) := by decide +kernel
theorem dX3_append_15 : decode cX3_append 15 = .ok (.dup, 1) := by decide +kernel
theorem dX3_append_16 : decode cX3_append 16 = .ok (.ldc 129, 2) := by decide +kernel
theorem dX3_append_18 : decode cX3_append 18 = .ok (.invokespecial 56, 3) := by decide +kernel
theorem dX3_append_21 : decode cX3_append 21 = .ok (.athrow, 1) := by decide +kernel
theorem dX3_append_22 : decode cX3_append 22 = .ok (.aload_n 0, 1) := by decide +kernel
theorem dX3_append_23 : decode cX3_append 23 = .ok (.getfield 38, 3) := by decide +kernel
theorem dX3_append_26 : decode cX3_append 26 = .ok (.bipush 60, 2) := by decide +kernel
theorem dX3_append_28 : decode cX3_append 28 = .ok (.if_icmp .lt 13, 3) := by decide +kernel
theorem dX3_append_31 : decode cX3_append 31 = .ok (.new 63, 3) := by decide +kernel
theorem dX3_append_34 : decode cX3_append 34 = .ok (.dup, 1) := by decide +kernel
theorem dX3_append_35 : decode cX3_append 35 = .ok (.ldc 131, 2) := by decide +kernel
theorem dX3_append_37 : decode cX3_append 37 = .ok (.invokespecial 67, 3) := by decide +kernel
theorem dX3_append_40 : decode cX3_append 40 = .ok (.athrow, 1) := by decide +kernel
theorem dX3_append_41 : decode cX3_append 41 = .ok (.aload_n 0, 1) := by decide +kernel
theorem dX3_append_42 : decode cX3_append 42 = .ok (.getfield 34, 3) := by decide +kernel
theorem dX3_append_45 : decode cX3_append 45 = .ok (.aload_n 0, 1) := by decide +kernel
theorem dX3_append_46 : decode cX3_append 46 = .ok (.getfield 38, 3) := by decide +kernel
theorem dX3_append_49 : decode cX3_append 49 = .ok (.iload_n 1, 1) := by decide +kernel
theorem dX3_append_50 : decode cX3_append 50 = .ok (.iastore, 1) := by decide +kernel
theorem dX3_append_51 : decode cX3_append 51 = .ok (.aload_n 0, 1) := by decide +kernel
theorem dX3_append_52 : decode cX3_append 52 = .ok (.dup, 1) := by decide +kernel
theorem dX3_append_53 : decode cX3_append 53 = .ok (.getfield 38, 3) := by decide +kernel
theorem dX3_append_56 : decode cX3_append 56 = .ok (.iconst 1, 1) := by decide +kernel
theorem dX3_append_57 : decode cX3_append 57 = .ok (.iadd, 1) := by decide +kernel
theorem dX3_append_58 : decode cX3_append 58 = .ok (.putfield 38, 3) := by decide +kernel
theorem dX3_append_61 : decode cX3_append 61 = .ok (.aload_n 0, 1) := by decide +kernel
theorem dX3_append_62 : decode cX3_append 62 = .ok (.getfield 38, 3) := by decide +kernel
theorem dX3_append_65 : decode cX3_append 65 = .ok (.ireturn, 1) := by decide +kernel
theorem dX3_clearBuffer_0 : decode cX3_clearBuffer 0 = .ok (.aload_n 0, 1) := by decide +kernel
theorem dX3_clearBuffer_1 : decode cX3_clearBuffer 1 = .ok (.getfield 38, 3) := by decide +kernel
theorem dX3_clearBuffer_4 : decode cX3_clearBuffer 4 = .ok (.istore_n 1, 1) := by decide +kernel
theorem dX3_clearBuffer_5 : decode cX3_clearBuffer 5 = .ok (.aload_n 0, 1) := by decide +kernel
theorem dX3_clearBuffer_6 : decode cX3_clearBuffer 6 = .ok (.iconst 0, 1) := by decide +kernel
theorem dX3_clearBuffer_7 : decode cX3_clearBuffer 7 = .ok (.putfield 38, 3) := by decide +kernel
theorem dX3_clearBuffer_10 : decode cX3_clearBuffer 10 = .ok (.iload_n 1, 1) := by decide +kernel
theorem dX3_clearBuffer_11 : decode cX3_clearBuffer 11 = .ok (.ireturn, 1) := by decide +kernel
set_option maxRecDepth 20000 in
theorem ggX3_firstError_X1_begin : GoodIn wsX3_firstError wsX1_begin := goodIn_r _ [8, 9, 10, 11, 12, 66, 67, 68, 69] (by decide +kernel) (by decide +kernel)
set_option maxRecDepth 20000 in
theorem gX3_firstError_X1_begin : GoodIn wsX3_firstError (wsV RX3 133 RX1 yX1_begin wsX1_begin) := goodIn_app (goodIn_of _ (by decide +kernel)) ggX3_firstError_X1_begin
set_option maxRecDepth 20000 in
theorem ggX3_firstError_X1_take : GoodIn wsX3_firstError wsX1_take := goodIn_r _ [16, 9, 17, 18, 19, 7, 20, 10, 21, 22, 23, 24, 25, 26, 27, 28, 11, 12, 29, 30, 31, 32, 33, 5, 6, 8, 34, 35, 36, 37, 38, 39, 40, 41, 42, 43, 44, 45, 46, 47, 48, 49, 50, 51, 52, 53, 54, 55, 56, 66, 67, 68, 69] (by decide +kernel) (by decide +kernel)
set_option maxRecDepth 20000 in
theorem gX3_firstError_X1_take : GoodIn wsX3_firstError (wsV RX3 136 RX1 yX1_take wsX1_take) := goodIn_app (goodIn_of _ (by decide +kernel)) ggX3_firstError_X1_take
theorem dX3_firstError_0 : decode cX3_firstError 0 = .ok (.aload_n 0, 1) := by decide +kernel
theorem dX3_firstError_1 : decode cX3_firstError 1 = .ok (.getfield 44, 3) := by decide +kernel
theorem dX3_firstError_4 : decode cX3_firstError 4 = .ok (.invokevirtual 133, 3) := by decide +kernel
theorem dX3_firstError_7 : decode cX3_firstError 7 = .ok (.iconst 0, 1) := by decide +kernel
theorem dX3_firstError_8 : decode cX3_firstError 8 = .ok (.istore_n 1, 1) := by decide +kernel
theorem dX3_firstError_9 : decode cX3_firstError 9 = .ok (.iload_n 1, 1) := by decide +kernel
theorem dX3_firstError_10 : decode cX3_firstError 10 = .ok (.aload_n 0, 1) := by decide +kernel
theorem dX3_firstError_11 : decode cX3_firstError 11 = .ok (.getfield 38, 3) := by decide +kernel
theorem dX3_firstError_14 : decode cX3_firstError 14 = .ok (.if_icmp .ge 27, 3) := by decide +kernel
theorem dX3_firstError_17 : decode cX3_firstError 17 = .ok (.aload_n 0, 1) := by decide +kernel
theorem dX3_firstError_18 : decode cX3_firstError 18 = .ok (.getfield 44, 3) := by decide +kernel
theorem dX3_firstError_21 : decode cX3_firstError 21 = .ok (.aload_n 0, 1) := by decide +kernel
theorem dX3_firstError_22 : decode cX3_firstError 22 = .ok (.getfield 34, 3) := by decide +kernel
theorem dX3_firstError_25 : decode cX3_firstError 25 = .ok (.iload_n 1, 1) := by decide +kernel
theorem dX3_firstError_26 : decode cX3_firstError 26 = .ok (.iaload, 1) := by decide +kernel
theorem dX3_firstError_27 : decode cX3_firstError 27 = .ok (.invokevirtual 136, 3) := by decide +kernel
theorem dX3_firstError_30 : decode cX3_firstError 30 = .ok (.ifCond .ne 5, 3) := by decide +kernel
theorem dX3_firstError_33 : decode cX3_firstError 33 = .ok (.iload_n 1, 1) := by decide +kernel
theorem dX3_firstError_34 : decode cX3_firstError 34 = .ok (.ireturn, 1) := by decide +kernel
theorem dX3_firstError_35 : decode cX3_firstError 35 = .ok (.iinc 1 1, 3) := by decide +kernel
theorem dX3_firstError_38 : decode cX3_firstError 38 = .ok (.goto (-29), 3) := by decide +kernel
theorem dX3_firstError_41 : decode cX3_firstError 41 = .ok (.aload_n 0, 1) := by decide +kernel
theorem dX3_firstError_42 : decode cX3_firstError 42 = .ok (.getfield 38, 3) := by decide +kernel
theorem dX3_firstError_45 : decode cX3_firstError 45 = .ok (.ireturn, 1) := by decide +kernel
set_option maxRecDepth 20000 in
theorem ggX3_pass_X3_firstError : GoodIn wsX3_pass wsX3_firstError := goodIn_r _ [11, 4, 3, 6, 12, 13, 14, 15, 16, 17, 18, 19, 20, 21, 22, 23, 24, 25, 26, 27, 28, 29, 30, 31, 32, 33, 34, 35, 36, 37, 38, 39, 40, 41, 42, 43, 44, 45, 46, 47, 48, 49, 50, 51, 52, 53, 54, 55, 56, 57, 58, 59, 60, 61, 62, 63, 64, 207, 208, 209, 210, 211, 212, 213, 214, 215, 216, 217, 218, 219] (by decide +kernel) (by decide +kernel)
set_option maxRecDepth 20000 in
theorem gX3_pass_X3_firstError : GoodIn wsX3_pass (wsV RX3 140 RX3 yX3_firstError wsX3_firstError) := goodIn_app (goodIn_of _ (by decide +kernel)) ggX3_pass_X3_firstError
set_option maxRecDepth 20000 in
theorem ggX3_pass_X1_isComplete : GoodIn wsX3_pass wsX1_isComplete := goodIn_r _ [36, 17, 19, 20, 37, 38, 39, 15, 40, 18, 216, 217, 218, 219] (by decide +kernel) (by decide +kernel)
set_option maxRecDepth 20000 in
theorem gX3_pass_X1_isComplete : GoodIn wsX3_pass (wsV RX3 143 RX1 yX1_isComplete wsX1_isComplete) := goodIn_app (goodIn_of _ (by decide +kernel)) ggX3_pass_X1_isComplete
set_option maxRecDepth 20000 in
theorem ggX3_pass_X3_save : GoodIn wsX3_pass wsX3_save := goodIn_r _ [69, 70, 71, 5, 72, 73, 74, 75, 76, 77, 78, 79, 80, 81, 82, 83, 84, 85, 86, 87, 88, 89, 90, 91, 92, 93, 94, 95, 96, 97, 98, 99, 207, 208, 209, 210, 211, 212, 213, 214, 215, 220, 221, 222, 223, 224, 225, 226, 227, 228, 229, 230, 231, 232] (by decide +kernel) (by decide +kernel)
set_option maxRecDepth 20000 in
theorem gX3_pass_X3_save : GoodIn wsX3_pass (wsV RX3 68 RX3 yX3_save wsX3_save) := goodIn_app (goodIn_of _ (by decide +kernel)) ggX3_pass_X3_save
set_option maxRecDepth 20000 in
theorem ggX3_pass_X0_noteStop : GoodIn wsX3_pass wsX0_noteStop := goodIn_r _ [103, 85, 220, 221, 222, 223, 224, 225, 226, 227, 228, 229] (by decide +kernel) (by decide +kernel)
set_option maxRecDepth 20000 in
theorem gX3_pass_X0_noteStop : GoodIn wsX3_pass (wsV RX3 149 RX0 yX0_noteStop wsX0_noteStop) := goodIn_app (goodIn_of _ (by decide +kernel)) ggX3_pass_X0_noteStop
set_option maxRecDepth 20000 in
theorem ggX3_pass_X1_begin : GoodIn wsX3_pass wsX1_begin := goodIn_r _ [16, 17, 18, 19, 20, 216, 217, 218, 219] (by decide +kernel) (by decide +kernel)
set_option maxRecDepth 20000 in
theorem gX3_pass_X1_begin : GoodIn wsX3_pass (wsV RX3 133 RX1 yX1_begin wsX1_begin) := goodIn_app (goodIn_of _ (by decide +kernel)) ggX3_pass_X1_begin
set_option maxRecDepth 20000 in
theorem ggX3_pass_X3_playPart : GoodIn wsX3_pass wsX3_playPart := goodIn_r _ [107, 4, 5, 108, 109, 110, 10, 111, 112, 113, 114, 75, 115, 77, 116, 117, 118, 119, 88, 120, 121, 122, 123, 86, 89, 83, 124, 125, 126, 127, 82, 128, 129, 130, 131, 132, 133, 134, 135, 136, 137, 138, 90, 139, 140, 141, 142, 143, 144, 145, 94, 146, 99, 96, 98, 147, 148, 149, 150, 151, 152, 153, 154, 155, 156, 157, 158, 159, 160, 161, 162, 163, 164, 165, 166, 167, 168, 169, 170, 171, 172, 173, 174, 175, 176, 177, 178, 179, 180, 181, 182, 183, 184, 185, 186, 187, 188, 189, 190, 191, 192, 193, 194, 195, 196, 197, 198, 199, 200, 201, 202, 84, 87, 203, 204, 205, 206, 207, 208, 209, 210, 211, 212, 213, 214, 215, 216, 217, 218, 219, 220, 221, 222, 223, 224, 225, 226, 227, 228, 229, 230, 231, 232] (by decide +kernel) (by decide +kernel)
set_option maxRecDepth 20000 in
theorem gX3_pass_X3_playPart : GoodIn wsX3_pass (wsV RX3 152 RX3 yX3_playPart wsX3_playPart) := goodIn_app (goodIn_of _ (by decide +kernel)) ggX3_pass_X3_playPart
set_option maxRecDepth 20000 in
theorem ggX3_pass_X1_take : GoodIn wsX3_pass wsX1_take := goodIn_r _ [24, 17, 25, 26, 27, 15, 28, 18, 29, 30, 31, 32, 33, 34, 35, 36, 19, 20, 37, 38, 39, 40, 41, 13, 14, 16, 42, 43, 44, 45, 46, 47, 48, 49, 50, 51, 52, 53, 54, 55, 56, 57, 58, 59, 60, 61, 62, 63, 64, 216, 217, 218, 219] (by decide +kernel) (by decide +kernel)
set_option maxRecDepth 20000 in
theorem gX3_pass_X1_take : GoodIn wsX3_pass (wsV RX3 136 RX1 yX1_take wsX1_take) := goodIn_app (goodIn_of _ (by decide +kernel)) ggX3_pass_X1_take
theorem dX3_pass_0 : decode cX3_pass 0 = .ok (.aload_n 0, 1) := by decide +kernel
theorem dX3_pass_1 : decode cX3_pass 1 = .ok (.invokevirtual 140, 3) := by decide +kernel
theorem dX3_pass_4 : decode cX3_pass 4 = .ok (.aload_n 0, 1) := by decide +kernel
theorem dX3_pass_5 : decode cX3_pass 5 = .ok (.getfield 38, 3) := by decide +kernel
theorem dX3_pass_8 : decode cX3_pass 8 = .ok (.if_icmp .lt 13, 3) := by decide +kernel
theorem dX3_pass_11 : decode cX3_pass 11 = .ok (.aload_n 0, 1) := by decide +kernel
theorem dX3_pass_12 : decode cX3_pass 12 = .ok (.getfield 44, 3) := by decide +kernel
theorem dX3_pass_15 : decode cX3_pass 15 = .ok (.invokevirtual 143, 3) := by decide +kernel
theorem dX3_pass_18 : decode cX3_pass 18 = .ok (.ifCond .ne 13, 3) := by decide +kernel
theorem dX3_pass_21 : decode cX3_pass 21 = .ok (.new 52, 3) := by decide +kernel
theorem dX3_pass_24 : decode cX3_pass 24 = .ok (.dup, 1) := by decide +kernel
theorem dX3_pass_25 : decode cX3_pass 25 = .ok (.ldc 147, 2) := by decide +kernel
theorem dX3_pass_27 : decode cX3_pass 27 = .ok (.invokespecial 56, 3) := by decide +kernel
theorem dX3_pass_30 : decode cX3_pass 30 = .ok (.athrow, 1) := by decide +kernel
theorem dX3_pass_31 : decode cX3_pass 31 = .ok (.aload_n 0, 1) := by decide +kernel
theorem dX3_pass_32 : decode cX3_pass 32 = .ok (.invokevirtual 68, 3) := by decide +kernel
theorem dX3_pass_35 : decode cX3_pass 35 = .ok (.aload_n 0, 1) := by decide +kernel
theorem dX3_pass_36 : decode cX3_pass 36 = .ok (.getfield 10, 3) := by decide +kernel
theorem dX3_pass_39 : decode cX3_pass 39 = .ok (.iconst (-1), 1) := by decide +kernel
theorem dX3_pass_40 : decode cX3_pass 40 = .ok (.iconst (-1), 1) := by decide +kernel
theorem dX3_pass_41 : decode cX3_pass 41 = .ok (.invokevirtual 149, 3) := by decide +kernel
theorem dX3_pass_44 : decode cX3_pass 44 = .ok (.aload_n 0, 1) := by decide +kernel
theorem dX3_pass_45 : decode cX3_pass 45 = .ok (.getfield 44, 3) := by decide +kernel
theorem dX3_pass_48 : decode cX3_pass 48 = .ok (.invokevirtual 133, 3) := by decide +kernel
theorem dX3_pass_51 : decode cX3_pass 51 = .ok (.iconst 0, 1) := by decide +kernel
theorem dX3_pass_52 : decode cX3_pass 52 = .ok (.istore_n 1, 1) := by decide +kernel
theorem dX3_pass_53 : decode cX3_pass 53 = .ok (.iconst 0, 1) := by decide +kernel
theorem dX3_pass_54 : decode cX3_pass 54 = .ok (.istore_n 2, 1) := by decide +kernel
theorem dX3_pass_55 : decode cX3_pass 55 = .ok (.iconst 0, 1) := by decide +kernel
theorem dX3_pass_56 : decode cX3_pass 56 = .ok (.istore_n 3, 1) := by decide +kernel
theorem dX3_pass_57 : decode cX3_pass 57 = .ok (.iload_n 3, 1) := by decide +kernel
theorem dX3_pass_58 : decode cX3_pass 58 = .ok (.aload_n 0, 1) := by decide +kernel
theorem dX3_pass_59 : decode cX3_pass 59 = .ok (.getfield 38, 3) := by decide +kernel
theorem dX3_pass_62 : decode cX3_pass 62 = .ok (.if_icmp .gt 71, 3) := by decide +kernel
theorem dX3_pass_65 : decode cX3_pass 65 = .ok (.iload_n 2, 1) := by decide +kernel
theorem dX3_pass_66 : decode cX3_pass 66 = .ok (.ifCond .ne 67, 3) := by decide +kernel
theorem dX3_pass_69 : decode cX3_pass 69 = .ok (.iload_n 3, 1) := by decide +kernel
theorem dX3_pass_70 : decode cX3_pass 70 = .ok (.aload_n 0, 1) := by decide +kernel
theorem dX3_pass_71 : decode cX3_pass 71 = .ok (.getfield 38, 3) := by decide +kernel
theorem dX3_pass_74 : decode cX3_pass 74 = .ok (.if_icmp .eq 14, 3) := by decide +kernel
theorem dX3_pass_77 : decode cX3_pass 77 = .ok (.aload_n 0, 1) := by decide +kernel
theorem dX3_pass_78 : decode cX3_pass 78 = .ok (.getfield 34, 3) := by decide +kernel
theorem dX3_pass_81 : decode cX3_pass 81 = .ok (.iload_n 3, 1) := by decide +kernel
theorem dX3_pass_82 : decode cX3_pass 82 = .ok (.iaload, 1) := by decide +kernel
theorem dX3_pass_83 : decode cX3_pass 83 = .ok (.bipush 59, 2) := by decide +kernel
theorem dX3_pass_85 : decode cX3_pass 85 = .ok (.if_icmp .ne 20, 3) := by decide +kernel
theorem dX3_pass_88 : decode cX3_pass 88 = .ok (.aload_n 0, 1) := by decide +kernel
theorem dX3_pass_89 : decode cX3_pass 89 = .ok (.invokevirtual 152, 3) := by decide +kernel
theorem dX3_pass_92 : decode cX3_pass 92 = .ok (.istore_n 2, 1) := by decide +kernel
theorem dX3_pass_93 : decode cX3_pass 93 = .ok (.iload_n 1, 1) := by decide +kernel
theorem dX3_pass_94 : decode cX3_pass 94 = .ok (.iload_n 2, 1) := by decide +kernel
theorem dX3_pass_95 : decode cX3_pass 95 = .ok (.ifCond .ne 7, 3) := by decide +kernel
theorem dX3_pass_98 : decode cX3_pass 98 = .ok (.iconst 1, 1) := by decide +kernel
theorem dX3_pass_99 : decode cX3_pass 99 = .ok (.goto 4, 3) := by decide +kernel
theorem dX3_pass_102 : decode cX3_pass 102 = .ok (.iconst 0, 1) := by decide +kernel
theorem dX3_pass_103 : decode cX3_pass 103 = .ok (.iadd, 1) := by decide +kernel
theorem dX3_pass_104 : decode cX3_pass 104 = .ok (.istore_n 1, 1) := by decide +kernel
theorem dX3_pass_105 : decode cX3_pass 105 = .ok (.iload_n 3, 1) := by decide +kernel
theorem dX3_pass_106 : decode cX3_pass 106 = .ok (.aload_n 0, 1) := by decide +kernel
theorem dX3_pass_107 : decode cX3_pass 107 = .ok (.getfield 38, 3) := by decide +kernel
theorem dX3_pass_110 : decode cX3_pass 110 = .ok (.if_icmp .ge 17, 3) := by decide +kernel
theorem dX3_pass_113 : decode cX3_pass 113 = .ok (.aload_n 0, 1) := by decide +kernel
theorem dX3_pass_114 : decode cX3_pass 114 = .ok (.getfield 44, 3) := by decide +kernel
theorem dX3_pass_117 : decode cX3_pass 117 = .ok (.aload_n 0, 1) := by decide +kernel
theorem dX3_pass_118 : decode cX3_pass 118 = .ok (.getfield 34, 3) := by decide +kernel
theorem dX3_pass_121 : decode cX3_pass 121 = .ok (.iload_n 3, 1) := by decide +kernel
theorem dX3_pass_122 : decode cX3_pass 122 = .ok (.iaload, 1) := by decide +kernel
theorem dX3_pass_123 : decode cX3_pass 123 = .ok (.invokevirtual 136, 3) := by decide +kernel
theorem dX3_pass_126 : decode cX3_pass 126 = .ok (.pop, 1) := by decide +kernel
theorem dX3_pass_127 : decode cX3_pass 127 = .ok (.iinc 3 1, 3) := by decide +kernel
theorem dX3_pass_130 : decode cX3_pass 130 = .ok (.goto (-73), 3) := by decide +kernel
theorem dX3_pass_133 : decode cX3_pass 133 = .ok (.iload_n 2, 1) := by decide +kernel
theorem dX3_pass_134 : decode cX3_pass 134 = .ok (.ifCond .eq 12, 3) := by decide +kernel
theorem dX3_pass_137 : decode cX3_pass 137 = .ok (.aload_n 0, 1) := by decide +kernel
theorem dX3_pass_138 : decode cX3_pass 138 = .ok (.getfield 10, 3) := by decide +kernel
theorem dX3_pass_141 : decode cX3_pass 141 = .ok (.iload_n 1, 1) := by decide +kernel
theorem dX3_pass_142 : decode cX3_pass 142 = .ok (.iload_n 2, 1) := by decide +kernel
theorem dX3_pass_143 : decode cX3_pass 143 = .ok (.invokevirtual 149, 3) := by decide +kernel
theorem dX3_pass_146 : decode cX3_pass 146 = .ok (.aload_n 0, 1) := by decide +kernel
theorem dX3_pass_147 : decode cX3_pass 147 = .ok (.iconst 0, 1) := by decide +kernel
theorem dX3_pass_148 : decode cX3_pass 148 = .ok (.putfield 38, 3) := by decide +kernel
theorem dX3_pass_151 : decode cX3_pass 151 = .ok (.iload_n 1, 1) := by decide +kernel
theorem dX3_pass_152 : decode cX3_pass 152 = .ok (.ireturn, 1) := by decide +kernel
theorem dX3_stopped_0 : decode cX3_stopped 0 = .ok (.iload_n 1, 1) := by decide +kernel
theorem dX3_stopped_1 : decode cX3_stopped 1 = .ok (.ifCond .lt 8, 3) := by decide +kernel
theorem dX3_stopped_4 : decode cX3_stopped 4 = .ok (.iload_n 1, 1) := by decide +kernel
theorem dX3_stopped_5 : decode cX3_stopped 5 = .ok (.iconst 2, 1) := by decide +kernel
theorem dX3_stopped_6 : decode cX3_stopped 6 = .ok (.if_icmp .lt 13, 3) := by decide +kernel
theorem dX3_stopped_9 : decode cX3_stopped 9 = .ok (.new 52, 3) := by decide +kernel
theorem dX3_stopped_12 : decode cX3_stopped 12 = .ok (.dup, 1) := by decide +kernel
theorem dX3_stopped_13 : decode cX3_stopped 13 = .ok (.ldc 155, 2) := by decide +kernel
theorem dX3_stopped_15 : decode cX3_stopped 15 = .ok (.invokespecial 56, 3) := by decide +kernel
theorem dX3_stopped_18 : decode cX3_stopped 18 = .ok (.athrow, 1) := by decide +kernel
theorem dX3_stopped_19 : decode cX3_stopped 19 = .ok (.aload_n 0, 1) := by decide +kernel
theorem dX3_stopped_20 : decode cX3_stopped 20 = .ok (.getfield 10, 3) := by decide +kernel
theorem dX3_stopped_23 : decode cX3_stopped 23 = .ok (.getfield 157, 3) := by decide +kernel
theorem dX3_stopped_26 : decode cX3_stopped 26 = .ok (.iload_n 1, 1) := by decide +kernel
theorem dX3_stopped_27 : decode cX3_stopped 27 = .ok (.iaload, 1) := by decide +kernel
theorem dX3_stopped_28 : decode cX3_stopped 28 = .ok (.ireturn, 1) := by decide +kernel
set_option maxRecDepth 20000 in
theorem ggX3_undo_X0_copyFrom : GoodIn wsX3_undo wsX0_copyFrom := goodIn_r _ [10, 11, 12, 13, 14, 15, 16, 17, 18, 19, 20, 21, 22, 23, 24, 25, 26, 27, 28, 29, 30, 31, 32, 33, 43, 44, 45, 46, 47, 48, 49, 50, 51, 52, 53, 54, 55] (by decide +kernel) (by decide +kernel)
set_option maxRecDepth 20000 in
theorem gX3_undo_X0_copyFrom : GoodIn wsX3_undo (wsV RX3 162 RX0 yX0_copyFrom wsX0_copyFrom) := goodIn_app (goodIn_of _ (by decide +kernel)) ggX3_undo_X0_copyFrom
theorem dX3_undo_0 : decode cX3_undo 0 = .ok (.aload_n 0, 1) := by decide +kernel
theorem dX3_undo_1 : decode cX3_undo 1 = .ok (.getfield 30, 3) := by decide +kernel
theorem dX3_undo_4 : decode cX3_undo 4 = .ok (.ifCond .gt 13, 3) := by decide +kernel
theorem dX3_undo_7 : decode cX3_undo 7 = .ok (.new 63, 3) := by decide +kernel
theorem dX3_undo_10 : decode cX3_undo 10 = .ok (.dup, 1) := by decide +kernel
theorem dX3_undo_11 : decode cX3_undo 11 = .ok (.ldc 160, 2) := by decide +kernel
theorem dX3_undo_13 : decode cX3_undo 13 = .ok (.invokespecial 67, 3) := by decide +kernel
theorem dX3_undo_16 : decode cX3_undo 16 = .ok (.athrow, 1) := by decide +kernel
theorem dX3_undo_17 : decode cX3_undo 17 = .ok (.aload_n 0, 1) := by decide +kernel
theorem dX3_undo_18 : decode cX3_undo 18 = .ok (.dup, 1) := by decide +kernel
theorem dX3_undo_19 : decode cX3_undo 19 = .ok (.getfield 30, 3) := by decide +kernel
theorem dX3_undo_22 : decode cX3_undo 22 = .ok (.iconst 1, 1) := by decide +kernel
theorem dX3_undo_23 : decode cX3_undo 23 = .ok (.isub, 1) := by decide +kernel
theorem dX3_undo_24 : decode cX3_undo 24 = .ok (.putfield 30, 3) := by decide +kernel
theorem dX3_undo_27 : decode cX3_undo 27 = .ok (.aload_n 0, 1) := by decide +kernel
theorem dX3_undo_28 : decode cX3_undo 28 = .ok (.getfield 10, 3) := by decide +kernel
theorem dX3_undo_31 : decode cX3_undo 31 = .ok (.aload_n 0, 1) := by decide +kernel
theorem dX3_undo_32 : decode cX3_undo 32 = .ok (.getfield 26, 3) := by decide +kernel
theorem dX3_undo_35 : decode cX3_undo 35 = .ok (.aload_n 0, 1) := by decide +kernel
theorem dX3_undo_36 : decode cX3_undo 36 = .ok (.getfield 30, 3) := by decide +kernel
theorem dX3_undo_39 : decode cX3_undo 39 = .ok (.aaload, 1) := by decide +kernel
theorem dX3_undo_40 : decode cX3_undo 40 = .ok (.invokevirtual 162, 3) := by decide +kernel
theorem dX3_undo_43 : decode cX3_undo 43 = .ok (.aload_n 0, 1) := by decide +kernel
theorem dX3_undo_44 : decode cX3_undo 44 = .ok (.getfield 30, 3) := by decide +kernel
theorem dX3_undo_47 : decode cX3_undo 47 = .ok (.ireturn, 1) := by decide +kernel
set_option maxRecDepth 20000 in
theorem ggX3_keep_X0_copyFrom : GoodIn wsX3_keep wsX0_copyFrom := goodIn_r _ [8, 9, 10, 11, 12, 13, 14, 15, 16, 17, 18, 19, 20, 21, 22, 23, 24, 25, 26, 27, 28, 29, 30, 31, 41, 42, 43, 44, 45, 46, 47, 48, 49, 50, 51, 52, 53] (by decide +kernel) (by decide +kernel)
set_option maxRecDepth 20000 in
theorem gX3_keep_X0_copyFrom : GoodIn wsX3_keep (wsV RX3 162 RX0 yX0_copyFrom wsX0_copyFrom) := goodIn_app (goodIn_of _ (by decide +kernel)) ggX3_keep_X0_copyFrom
theorem dX3_keep_0 : decode cX3_keep 0 = .ok (.aload_n 0, 1) := by decide +kernel
theorem dX3_keep_1 : decode cX3_keep 1 = .ok (.getfield 19, 3) := by decide +kernel
theorem dX3_keep_4 : decode cX3_keep 4 = .ok (.aload_n 0, 1) := by decide +kernel
theorem dX3_keep_5 : decode cX3_keep 5 = .ok (.getfield 10, 3) := by decide +kernel
theorem dX3_keep_8 : decode cX3_keep 8 = .ok (.invokevirtual 162, 3) := by decide +kernel
theorem dX3_keep_11 : decode cX3_keep 11 = .ok (.aload_n 0, 1) := by decide +kernel
theorem dX3_keep_12 : decode cX3_keep 12 = .ok (.iconst 1, 1) := by decide +kernel
theorem dX3_keep_13 : decode cX3_keep 13 = .ok (.putfield 22, 3) := by decide +kernel
theorem dX3_keep_16 : decode cX3_keep 16 = .ok (.aload_n 0, 1) := by decide +kernel
theorem dX3_keep_17 : decode cX3_keep 17 = .ok (.getfield 10, 3) := by decide +kernel
theorem dX3_keep_20 : decode cX3_keep 20 = .ok (.getfield 166, 3) := by decide +kernel
theorem dX3_keep_23 : decode cX3_keep 23 = .ok (.ireturn, 1) := by decide +kernel
set_option maxRecDepth 20000 in
theorem ggX3_restore_X3_save : GoodIn wsX3_restore wsX3_save := goodIn_r _ [10, 11, 12, 4, 13, 14, 15, 16, 17, 18, 19, 20, 21, 22, 23, 24, 25, 26, 27, 28, 29, 30, 31, 32, 33, 34, 35, 36, 37, 38, 39, 40, 41, 42, 43, 44, 45, 46, 47, 48, 49, 50, 51, 52, 53, 54, 55, 56, 57, 58, 59, 60, 61, 62] (by decide +kernel) (by decide +kernel)
set_option maxRecDepth 20000 in
theorem gX3_restore_X3_save : GoodIn wsX3_restore (wsV RX3 68 RX3 yX3_save wsX3_save) := goodIn_app (goodIn_of _ (by decide +kernel)) ggX3_restore_X3_save
set_option maxRecDepth 20000 in
theorem ggX3_restore_X0_copyFrom : GoodIn wsX3_restore wsX0_copyFrom := goodIn_r _ [17, 18, 19, 20, 21, 22, 23, 24, 25, 26, 27, 28, 29, 30, 31, 32, 33, 34, 35, 36, 37, 38, 39, 40, 50, 51, 52, 53, 54, 55, 56, 57, 58, 59, 60, 61, 62] (by decide +kernel) (by decide +kernel)
set_option maxRecDepth 20000 in
theorem gX3_restore_X0_copyFrom : GoodIn wsX3_restore (wsV RX3 162 RX0 yX0_copyFrom wsX0_copyFrom) := goodIn_app (goodIn_of _ (by decide +kernel)) ggX3_restore_X0_copyFrom
theorem dX3_restore_0 : decode cX3_restore 0 = .ok (.aload_n 0, 1) := by decide +kernel
theorem dX3_restore_1 : decode cX3_restore 1 = .ok (.getfield 22, 3) := by decide +kernel
theorem dX3_restore_4 : decode cX3_restore 4 = .ok (.ifCond .ne 13, 3) := by decide +kernel
theorem dX3_restore_7 : decode cX3_restore 7 = .ok (.new 63, 3) := by decide +kernel
theorem dX3_restore_10 : decode cX3_restore 10 = .ok (.dup, 1) := by decide +kernel
theorem dX3_restore_11 : decode cX3_restore 11 = .ok (.ldc 169, 2) := by decide +kernel
theorem dX3_restore_13 : decode cX3_restore 13 = .ok (.invokespecial 67, 3) := by decide +kernel
theorem dX3_restore_16 : decode cX3_restore 16 = .ok (.athrow, 1) := by decide +kernel
theorem dX3_restore_17 : decode cX3_restore 17 = .ok (.aload_n 0, 1) := by decide +kernel
theorem dX3_restore_18 : decode cX3_restore 18 = .ok (.invokevirtual 68, 3) := by decide +kernel
theorem dX3_restore_21 : decode cX3_restore 21 = .ok (.aload_n 0, 1) := by decide +kernel
theorem dX3_restore_22 : decode cX3_restore 22 = .ok (.getfield 10, 3) := by decide +kernel
theorem dX3_restore_25 : decode cX3_restore 25 = .ok (.aload_n 0, 1) := by decide +kernel
theorem dX3_restore_26 : decode cX3_restore 26 = .ok (.getfield 19, 3) := by decide +kernel
theorem dX3_restore_29 : decode cX3_restore 29 = .ok (.invokevirtual 162, 3) := by decide +kernel
theorem dX3_restore_32 : decode cX3_restore 32 = .ok (.aload_n 0, 1) := by decide +kernel
theorem dX3_restore_33 : decode cX3_restore 33 = .ok (.getfield 10, 3) := by decide +kernel
theorem dX3_restore_36 : decode cX3_restore 36 = .ok (.getfield 166, 3) := by decide +kernel
theorem dX3_restore_39 : decode cX3_restore 39 = .ok (.ireturn, 1) := by decide +kernel
set_option maxRecDepth 20000 in
theorem ggX3_dove_X3_needDove : GoodIn wsX3_dove wsX3_needDove := goodIn_ca (goodIn_r _ [8, 9, 10, 3, 11, 12, 13, 14, 15, 16, 17, 18, 19, 20, 21, 22, 23, 24, 25, 26, 27, 28, 29, 30, 31, 32, 33, 34, 35] (by decide +kernel) (by decide +kernel)) (goodIn_sub (fun _ h => List.mem_cons_of_mem _ (List.mem_append_right _ h)) (by decide +kernel))
set_option maxRecDepth 20000 in
theorem gX3_dove_X3_needDove : GoodIn wsX3_dove (wsV RX3 75 RX3 yX3_needDove wsX3_needDove) := goodIn_app (goodIn_of _ (by decide +kernel)) ggX3_dove_X3_needDove
theorem dX3_dove_0 : decode cX3_dove 0 = .ok (.aload_n 0, 1) := by decide +kernel
theorem dX3_dove_1 : decode cX3_dove 1 = .ok (.iload_n 1, 1) := by decide +kernel
theorem dX3_dove_2 : decode cX3_dove 2 = .ok (.invokevirtual 75, 3) := by decide +kernel
theorem dX3_dove_5 : decode cX3_dove 5 = .ok (.iload_n 2, 1) := by decide +kernel
theorem dX3_dove_6 : decode cX3_dove 6 = .ok (.ifCond .lt 9, 3) := by decide +kernel
theorem dX3_dove_9 : decode cX3_dove 9 = .ok (.iload_n 2, 1) := by decide +kernel
theorem dX3_dove_10 : decode cX3_dove 10 = .ok (.bipush 8, 2) := by decide +kernel
theorem dX3_dove_12 : decode cX3_dove 12 = .ok (.if_icmp .lt 13, 3) := by decide +kernel
theorem dX3_dove_15 : decode cX3_dove 15 = .ok (.new 52, 3) := by decide +kernel
theorem dX3_dove_18 : decode cX3_dove 18 = .ok (.dup, 1) := by decide +kernel
theorem dX3_dove_19 : decode cX3_dove 19 = .ok (.ldc 171, 2) := by decide +kernel
theorem dX3_dove_21 : decode cX3_dove 21 = .ok (.invokespecial 56, 3) := by decide +kernel
theorem dX3_dove_24 : decode cX3_dove 24 = .ok (.athrow, 1) := by decide +kernel
theorem dX3_dove_25 : decode cX3_dove 25 = .ok (.aload_n 0, 1) := by decide +kernel
theorem dX3_dove_26 : decode cX3_dove 26 = .ok (.getfield 10, 3) := by decide +kernel
theorem dX3_dove_29 : decode cX3_dove 29 = .ok (.getfield 173, 3) := by decide +kernel
theorem dX3_dove_32 : decode cX3_dove 32 = .ok (.iload_n 2, 1) := by decide +kernel
theorem dX3_dove_33 : decode cX3_dove 33 = .ok (.aaload, 1) := by decide +kernel
theorem dX3_dove_34 : decode cX3_dove 34 = .ok (.iload_n 1, 1) := by decide +kernel
theorem dX3_dove_35 : decode cX3_dove 35 = .ok (.iaload, 1) := by decide +kernel
theorem dX3_dove_36 : decode cX3_dove 36 = .ok (.ireturn, 1) := by decide +kernel
set_option maxRecDepth 20000 in
theorem ggX3_hole_X3_needHole : GoodIn wsX3_hole wsX3_needHole := goodIn_ca (goodIn_r _ [7, 8, 9, 10, 11, 6, 12] (by decide +kernel) (by decide +kernel)) (goodIn_sub (fun _ h => List.mem_cons_of_mem _ (List.mem_append_right _ h)) (by decide +kernel))
set_option maxRecDepth 20000 in
theorem gX3_hole_X3_needHole : GoodIn wsX3_hole (va_wsS RX3 48 yX3_needHole wsX3_needHole) := goodIn_app (goodIn_of _ (by decide +kernel)) ggX3_hole_X3_needHole
theorem dX3_hole_0 : decode cX3_hole 0 = .ok (.iload_n 1, 1) := by decide +kernel
theorem dX3_hole_1 : decode cX3_hole 1 = .ok (.invokestatic 48, 3) := by decide +kernel
theorem dX3_hole_4 : decode cX3_hole 4 = .ok (.iload_n 2, 1) := by decide +kernel
theorem dX3_hole_5 : decode cX3_hole 5 = .ok (.ifCond .lt 8, 3) := by decide +kernel
theorem dX3_hole_8 : decode cX3_hole 8 = .ok (.iload_n 2, 1) := by decide +kernel
theorem dX3_hole_9 : decode cX3_hole 9 = .ok (.iconst 3, 1) := by decide +kernel
theorem dX3_hole_10 : decode cX3_hole 10 = .ok (.if_icmp .lt 13, 3) := by decide +kernel
theorem dX3_hole_13 : decode cX3_hole 13 = .ok (.new 52, 3) := by decide +kernel
theorem dX3_hole_16 : decode cX3_hole 16 = .ok (.dup, 1) := by decide +kernel
theorem dX3_hole_17 : decode cX3_hole 17 = .ok (.ldc 177, 2) := by decide +kernel
theorem dX3_hole_19 : decode cX3_hole 19 = .ok (.invokespecial 56, 3) := by decide +kernel
theorem dX3_hole_22 : decode cX3_hole 22 = .ok (.athrow, 1) := by decide +kernel
theorem dX3_hole_23 : decode cX3_hole 23 = .ok (.aload_n 0, 1) := by decide +kernel
theorem dX3_hole_24 : decode cX3_hole 24 = .ok (.getfield 10, 3) := by decide +kernel
theorem dX3_hole_27 : decode cX3_hole 27 = .ok (.getfield 179, 3) := by decide +kernel
theorem dX3_hole_30 : decode cX3_hole 30 = .ok (.iload_n 2, 1) := by decide +kernel
theorem dX3_hole_31 : decode cX3_hole 31 = .ok (.aaload, 1) := by decide +kernel
theorem dX3_hole_32 : decode cX3_hole 32 = .ok (.iload_n 1, 1) := by decide +kernel
theorem dX3_hole_33 : decode cX3_hole 33 = .ok (.iaload, 1) := by decide +kernel
theorem dX3_hole_34 : decode cX3_hole 34 = .ok (.ireturn, 1) := by decide +kernel
set_option maxRecDepth 20000 in
theorem ggX3_count_X0_numberOf : GoodIn wsX3_count wsX0_numberOf := goodIn_r _ [9, 10, 11, 12, 13, 14, 15, 16, 17, 18, 8, 19, 20, 21, 22, 23, 24, 25, 26, 27, 28, 29, 30, 31, 32, 33, 34, 35, 36, 37, 38, 39, 40, 41, 42, 43, 44, 45, 46, 47, 48, 49, 50, 51, 52, 62, 63, 64, 65, 66, 67, 68, 69, 70, 71] (by decide +kernel) (by decide +kernel)
set_option maxRecDepth 20000 in
theorem gX3_count_X0_numberOf : GoodIn wsX3_count (wsV RX3 184 RX0 yX0_numberOf wsX0_numberOf) := goodIn_app (goodIn_of _ (by decide +kernel)) ggX3_count_X0_numberOf
theorem dX3_count_0 : decode cX3_count 0 = .ok (.iload_n 1, 1) := by decide +kernel
theorem dX3_count_1 : decode cX3_count 1 = .ok (.ifCond .lt 9, 3) := by decide +kernel
theorem dX3_count_4 : decode cX3_count 4 = .ok (.iload_n 1, 1) := by decide +kernel
theorem dX3_count_5 : decode cX3_count 5 = .ok (.bipush 18, 2) := by decide +kernel
theorem dX3_count_7 : decode cX3_count 7 = .ok (.if_icmp .lt 13, 3) := by decide +kernel
theorem dX3_count_10 : decode cX3_count 10 = .ok (.new 52, 3) := by decide +kernel
theorem dX3_count_13 : decode cX3_count 13 = .ok (.dup, 1) := by decide +kernel
theorem dX3_count_14 : decode cX3_count 14 = .ok (.ldc 182, 2) := by decide +kernel
theorem dX3_count_16 : decode cX3_count 16 = .ok (.invokespecial 56, 3) := by decide +kernel
theorem dX3_count_19 : decode cX3_count 19 = .ok (.athrow, 1) := by decide +kernel
theorem dX3_count_20 : decode cX3_count 20 = .ok (.iload_n 1, 1) := by decide +kernel
theorem dX3_count_21 : decode cX3_count 21 = .ok (.bipush 17, 2) := by decide +kernel
theorem dX3_count_23 : decode cX3_count 23 = .ok (.if_icmp .ne 10, 3) := by decide +kernel
theorem dX3_count_26 : decode cX3_count 26 = .ok (.aload_n 0, 1) := by decide +kernel
theorem dX3_count_27 : decode cX3_count 27 = .ok (.getfield 30, 3) := by decide +kernel
theorem dX3_count_30 : decode cX3_count 30 = .ok (.goto 11, 3) := by decide +kernel
theorem dX3_count_33 : decode cX3_count 33 = .ok (.aload_n 0, 1) := by decide +kernel
theorem dX3_count_34 : decode cX3_count 34 = .ok (.getfield 10, 3) := by decide +kernel
theorem dX3_count_37 : decode cX3_count 37 = .ok (.iload_n 1, 1) := by decide +kernel
theorem dX3_count_38 : decode cX3_count 38 = .ok (.invokevirtual 184, 3) := by decide +kernel
theorem dX3_count_41 : decode cX3_count 41 = .ok (.ireturn, 1) := by decide +kernel
theorem dX3_step_0 : decode cX3_step 0 = .ok (.iload_n 1, 1) := by decide +kernel
theorem dX3_step_1 : decode cX3_step 1 = .ok (.ifCond .lt 12, 3) := by decide +kernel
theorem dX3_step_4 : decode cX3_step 4 = .ok (.iload_n 2, 1) := by decide +kernel
theorem dX3_step_5 : decode cX3_step 5 = .ok (.ifCond .lt 8, 3) := by decide +kernel
theorem dX3_step_8 : decode cX3_step 8 = .ok (.iload_n 2, 1) := by decide +kernel
theorem dX3_step_9 : decode cX3_step 9 = .ok (.iconst 1, 1) := by decide +kernel
theorem dX3_step_10 : decode cX3_step 10 = .ok (.if_icmp .le 13, 3) := by decide +kernel
theorem dX3_step_13 : decode cX3_step 13 = .ok (.new 52, 3) := by decide +kernel
theorem dX3_step_16 : decode cX3_step 16 = .ok (.dup, 1) := by decide +kernel
theorem dX3_step_17 : decode cX3_step 17 = .ok (.ldc 187, 2) := by decide +kernel
theorem dX3_step_19 : decode cX3_step 19 = .ok (.invokespecial 56, 3) := by decide +kernel
theorem dX3_step_22 : decode cX3_step 22 = .ok (.athrow, 1) := by decide +kernel
theorem dX3_step_23 : decode cX3_step 23 = .ok (.iload_n 1, 1) := by decide +kernel
theorem dX3_step_24 : decode cX3_step 24 = .ok (.aload_n 0, 1) := by decide +kernel
theorem dX3_step_25 : decode cX3_step 25 = .ok (.getfield 10, 3) := by decide +kernel
theorem dX3_step_28 : decode cX3_step 28 = .ok (.getfield 189, 3) := by decide +kernel
theorem dX3_step_31 : decode cX3_step 31 = .ok (.getfield 193, 3) := by decide +kernel
theorem dX3_step_34 : decode cX3_step 34 = .ok (.if_icmp .lt 5, 3) := by decide +kernel
theorem dX3_step_37 : decode cX3_step 37 = .ok (.iconst (-1), 1) := by decide +kernel
theorem dX3_step_38 : decode cX3_step 38 = .ok (.ireturn, 1) := by decide +kernel
theorem dX3_step_39 : decode cX3_step 39 = .ok (.iload_n 2, 1) := by decide +kernel
theorem dX3_step_40 : decode cX3_step 40 = .ok (.ifCond .ne 18, 3) := by decide +kernel
theorem dX3_step_43 : decode cX3_step 43 = .ok (.aload_n 0, 1) := by decide +kernel
theorem dX3_step_44 : decode cX3_step 44 = .ok (.getfield 10, 3) := by decide +kernel
theorem dX3_step_47 : decode cX3_step 47 = .ok (.getfield 189, 3) := by decide +kernel
theorem dX3_step_50 : decode cX3_step 50 = .ok (.getfield 198, 3) := by decide +kernel
theorem dX3_step_53 : decode cX3_step 53 = .ok (.iload_n 1, 1) := by decide +kernel
theorem dX3_step_54 : decode cX3_step 54 = .ok (.iaload, 1) := by decide +kernel
theorem dX3_step_55 : decode cX3_step 55 = .ok (.goto 15, 3) := by decide +kernel
theorem dX3_step_58 : decode cX3_step 58 = .ok (.aload_n 0, 1) := by decide +kernel
theorem dX3_step_59 : decode cX3_step 59 = .ok (.getfield 10, 3) := by decide +kernel
theorem dX3_step_62 : decode cX3_step 62 = .ok (.getfield 189, 3) := by decide +kernel
theorem dX3_step_65 : decode cX3_step 65 = .ok (.getfield 201, 3) := by decide +kernel
theorem dX3_step_68 : decode cX3_step 68 = .ok (.iload_n 1, 1) := by decide +kernel
theorem dX3_step_69 : decode cX3_step 69 = .ok (.iaload, 1) := by decide +kernel
theorem dX3_step_70 : decode cX3_step 70 = .ok (.ireturn, 1) := by decide +kernel
set_option maxRecDepth 20000 in
theorem ggX3_whyNot_X3_needDove : GoodIn wsX3_whyNot wsX3_needDove := goodIn_ca (goodIn_r _ [6, 7, 8, 1, 9, 10, 11, 12, 13, 14, 25, 26, 27, 28, 29, 30, 31, 32, 33, 34, 35, 36, 37, 38, 39, 40, 41, 42, 43] (by decide +kernel) (by decide +kernel)) (goodIn_sub (fun _ h => List.mem_cons_of_mem _ (List.mem_append_left _ (List.mem_append_right _ h))) (by decide +kernel))
set_option maxRecDepth 20000 in
theorem gX3_whyNot_X3_needDove : GoodIn wsX3_whyNot (wsV RX3 75 RX3 yX3_needDove wsX3_needDove) := goodIn_app (goodIn_of _ (by decide +kernel)) ggX3_whyNot_X3_needDove
set_option maxRecDepth 20000 in
theorem ggX3_whyNot_X3_needTime : GoodIn wsX3_whyNot wsX3_needTime := goodIn_ca (goodIn_r _ [17, 18, 19] (by decide +kernel) (by decide +kernel)) (goodIn_sub (fun _ h => List.mem_cons_of_mem _ (List.mem_append_right _ h)) (by decide +kernel))
set_option maxRecDepth 20000 in
theorem gX3_whyNot_X3_needTime : GoodIn wsX3_whyNot (va_wsS RX3 115 yX3_needTime wsX3_needTime) := goodIn_app (goodIn_of _ (by decide +kernel)) ggX3_whyNot_X3_needTime
set_option maxRecDepth 20000 in
theorem ggX3_whyNot_X0_reasonNotHome : GoodIn wsX3_whyNot wsX0_reasonNotHome := goodIn_r _ [23, 14, 24, 34, 35, 36, 37, 38, 39, 40, 41, 42, 43] (by decide +kernel) (by decide +kernel)
set_option maxRecDepth 20000 in
theorem gX3_whyNot_X0_reasonNotHome : GoodIn wsX3_whyNot (wsV RX3 118 RX0 yX0_reasonNotHome wsX0_reasonNotHome) := goodIn_app (goodIn_of _ (by decide +kernel)) ggX3_whyNot_X0_reasonNotHome
theorem dX3_whyNot_0 : decode cX3_whyNot 0 = .ok (.aload_n 0, 1) := by decide +kernel
theorem dX3_whyNot_1 : decode cX3_whyNot 1 = .ok (.iload_n 1, 1) := by decide +kernel
theorem dX3_whyNot_2 : decode cX3_whyNot 2 = .ok (.invokevirtual 75, 3) := by decide +kernel
theorem dX3_whyNot_5 : decode cX3_whyNot 5 = .ok (.iload_n 2, 1) := by decide +kernel
theorem dX3_whyNot_6 : decode cX3_whyNot 6 = .ok (.invokestatic 115, 3) := by decide +kernel
theorem dX3_whyNot_9 : decode cX3_whyNot 9 = .ok (.aload_n 0, 1) := by decide +kernel
theorem dX3_whyNot_10 : decode cX3_whyNot 10 = .ok (.getfield 10, 3) := by decide +kernel
theorem dX3_whyNot_13 : decode cX3_whyNot 13 = .ok (.iload_n 1, 1) := by decide +kernel
theorem dX3_whyNot_14 : decode cX3_whyNot 14 = .ok (.iload_n 2, 1) := by decide +kernel
theorem dX3_whyNot_15 : decode cX3_whyNot 15 = .ok (.invokevirtual 118, 3) := by decide +kernel
theorem dX3_whyNot_18 : decode cX3_whyNot 18 = .ok (.ireturn, 1) := by decide +kernel
set_option maxRecDepth 20000 in
theorem ggX3_ifHome_X3_needDove : GoodIn wsX3_ifHome wsX3_needDove := goodIn_ca (goodIn_r _ [7, 8, 9, 10, 11, 12, 13, 14, 15, 16, 102, 103, 104, 105, 106, 107, 108, 109, 110, 111, 112, 113, 114, 115, 116, 117, 118, 119, 120] (by decide +kernel) (by decide +kernel)) (goodIn_sub (fun _ h => List.mem_cons_of_mem _ (List.mem_append_right _ h)) (by decide +kernel))
set_option maxRecDepth 20000 in
theorem gX3_ifHome_X3_needDove : GoodIn wsX3_ifHome (wsV RX3 75 RX3 yX3_needDove wsX3_needDove) := goodIn_app (goodIn_of _ (by decide +kernel)) ggX3_ifHome_X3_needDove
set_option maxRecDepth 20000 in
theorem ggX3_ifHome_X3_needTime : GoodIn wsX3_ifHome wsX3_needTime := goodIn_ca (goodIn_r _ [19, 1, 2] (by decide +kernel) (by decide +kernel)) (goodIn_sub (fun _ h => List.mem_cons_of_mem _ (List.mem_append_left _ (List.mem_append_right _ h))) (by decide +kernel))
set_option maxRecDepth 20000 in
theorem gX3_ifHome_X3_needTime : GoodIn wsX3_ifHome (va_wsS RX3 115 yX3_needTime wsX3_needTime) := goodIn_app (goodIn_of _ (by decide +kernel)) ggX3_ifHome_X3_needTime
set_option maxRecDepth 20000 in
theorem ggX3_ifHome_X3_tryHome : GoodIn wsX3_ifHome wsX3_tryHome := goodIn_r _ [23, 10, 24, 25, 26, 27, 14, 28, 16, 29, 30, 31, 32, 33, 34, 35, 36, 37, 38, 39, 40, 41, 42, 43, 44, 45, 46, 47, 48, 49, 50, 51, 52, 53, 54, 55, 56, 57, 58, 59, 60, 61, 62, 63, 6, 64, 65, 66, 67, 68, 69, 12, 13, 15, 70, 71, 72, 73, 74, 75, 76, 77, 78, 79, 80, 81, 82, 83, 84, 85, 86, 87, 88, 89, 90, 91, 92, 93, 102, 103, 104, 105, 106, 107, 108, 109, 110, 111, 112, 113, 114, 115, 116, 117, 118, 119, 120, 121, 122, 123] (by decide +kernel) (by decide +kernel)
set_option maxRecDepth 20000 in
theorem gX3_ifHome_X3_tryHome : GoodIn wsX3_ifHome (wsV RX3 204 RX3 yX3_tryHome wsX3_tryHome) := goodIn_app (goodIn_of _ (by decide +kernel)) ggX3_ifHome_X3_tryHome
set_option maxRecDepth 20000 in
theorem ggX3_ifHome_X3_trialNumber : GoodIn wsX3_ifHome wsX3_trialNumber := goodIn_r _ [97, 24, 10, 98, 99, 100, 14, 101, 16, 69, 12, 13, 15, 102, 103, 104, 105, 106, 107, 108, 109, 110, 111, 112, 113, 114, 115, 116, 117, 118, 119, 120] (by decide +kernel) (by decide +kernel)
set_option maxRecDepth 20000 in
theorem gX3_ifHome_X3_trialNumber : GoodIn wsX3_ifHome (wsV RX3 208 RX3 yX3_trialNumber wsX3_trialNumber) := goodIn_app (goodIn_of _ (by decide +kernel)) ggX3_ifHome_X3_trialNumber
theorem dX3_ifHome_0 : decode cX3_ifHome 0 = .ok (.aload_n 0, 1) := by decide +kernel
theorem dX3_ifHome_1 : decode cX3_ifHome 1 = .ok (.iload_n 1, 1) := by decide +kernel
theorem dX3_ifHome_2 : decode cX3_ifHome 2 = .ok (.invokevirtual 75, 3) := by decide +kernel
theorem dX3_ifHome_5 : decode cX3_ifHome 5 = .ok (.iload_n 2, 1) := by decide +kernel
theorem dX3_ifHome_6 : decode cX3_ifHome 6 = .ok (.invokestatic 115, 3) := by decide +kernel
theorem dX3_ifHome_9 : decode cX3_ifHome 9 = .ok (.iload_n 3, 1) := by decide +kernel
theorem dX3_ifHome_10 : decode cX3_ifHome 10 = .ok (.ifCond .lt 8, 3) := by decide +kernel
theorem dX3_ifHome_13 : decode cX3_ifHome 13 = .ok (.iload_n 3, 1) := by decide +kernel
theorem dX3_ifHome_14 : decode cX3_ifHome 14 = .ok (.iconst 2, 1) := by decide +kernel
theorem dX3_ifHome_15 : decode cX3_ifHome 15 = .ok (.if_icmp .le 13, 3) := by decide +kernel
theorem dX3_ifHome_18 : decode cX3_ifHome 18 = .ok (.new 52, 3) := by decide +kernel
theorem dX3_ifHome_21 : decode cX3_ifHome 21 = .ok (.dup, 1) := by decide +kernel
theorem dX3_ifHome_22 : decode cX3_ifHome 22 = .ok (.ldc 177, 2) := by decide +kernel
theorem dX3_ifHome_24 : decode cX3_ifHome 24 = .ok (.invokespecial 56, 3) := by decide +kernel
theorem dX3_ifHome_27 : decode cX3_ifHome 27 = .ok (.athrow, 1) := by decide +kernel
theorem dX3_ifHome_28 : decode cX3_ifHome 28 = .ok (.aload_n 0, 1) := by decide +kernel
theorem dX3_ifHome_29 : decode cX3_ifHome 29 = .ok (.iload_n 1, 1) := by decide +kernel
theorem dX3_ifHome_30 : decode cX3_ifHome 30 = .ok (.iload_n 2, 1) := by decide +kernel
theorem dX3_ifHome_31 : decode cX3_ifHome 31 = .ok (.invokevirtual 204, 3) := by decide +kernel
theorem dX3_ifHome_34 : decode cX3_ifHome 34 = .ok (.ifCond .eq 12, 3) := by decide +kernel
theorem dX3_ifHome_37 : decode cX3_ifHome 37 = .ok (.aload_n 0, 1) := by decide +kernel
theorem dX3_ifHome_38 : decode cX3_ifHome 38 = .ok (.iload_n 1, 1) := by decide +kernel
theorem dX3_ifHome_39 : decode cX3_ifHome 39 = .ok (.iload_n 3, 1) := by decide +kernel
theorem dX3_ifHome_40 : decode cX3_ifHome 40 = .ok (.invokevirtual 208, 3) := by decide +kernel
theorem dX3_ifHome_43 : decode cX3_ifHome 43 = .ok (.goto 4, 3) := by decide +kernel
theorem dX3_ifHome_46 : decode cX3_ifHome 46 = .ok (.iconst (-1), 1) := by decide +kernel
theorem dX3_ifHome_47 : decode cX3_ifHome 47 = .ok (.ireturn, 1) := by decide +kernel
set_option maxRecDepth 20000 in
theorem ggX3_freeHole_X0_isOpen : GoodIn wsX3_freeHole wsX0_isOpen := goodIn_r _ [6, 7, 8, 9, 10, 20, 21, 22, 23, 24, 25, 26, 27, 28, 29] (by decide +kernel) (by decide +kernel)
set_option maxRecDepth 20000 in
theorem gX3_freeHole_X0_isOpen : GoodIn wsX3_freeHole (wsV RX3 211 RX0 yX0_isOpen wsX0_isOpen) := goodIn_app (goodIn_of _ (by decide +kernel)) ggX3_freeHole_X0_isOpen
theorem dX3_freeHole_0 : decode cX3_freeHole 0 = .ok (.iconst 0, 1) := by decide +kernel
theorem dX3_freeHole_1 : decode cX3_freeHole 1 = .ok (.istore_n 1, 1) := by decide +kernel
theorem dX3_freeHole_2 : decode cX3_freeHole 2 = .ok (.iload_n 1, 1) := by decide +kernel
theorem dX3_freeHole_3 : decode cX3_freeHole 3 = .ok (.bipush 24, 2) := by decide +kernel
theorem dX3_freeHole_5 : decode cX3_freeHole 5 = .ok (.if_icmp .ge 37, 3) := by decide +kernel
theorem dX3_freeHole_8 : decode cX3_freeHole 8 = .ok (.aload_n 0, 1) := by decide +kernel
theorem dX3_freeHole_9 : decode cX3_freeHole 9 = .ok (.getfield 10, 3) := by decide +kernel
theorem dX3_freeHole_12 : decode cX3_freeHole 12 = .ok (.iload_n 1, 1) := by decide +kernel
theorem dX3_freeHole_13 : decode cX3_freeHole 13 = .ok (.invokevirtual 211, 3) := by decide +kernel
theorem dX3_freeHole_16 : decode cX3_freeHole 16 = .ok (.ifCond .eq 20, 3) := by decide +kernel
theorem dX3_freeHole_19 : decode cX3_freeHole 19 = .ok (.aload_n 0, 1) := by decide +kernel
theorem dX3_freeHole_20 : decode cX3_freeHole 20 = .ok (.getfield 10, 3) := by decide +kernel
theorem dX3_freeHole_23 : decode cX3_freeHole 23 = .ok (.getfield 179, 3) := by decide +kernel
theorem dX3_freeHole_26 : decode cX3_freeHole 26 = .ok (.iconst 1, 1) := by decide +kernel
theorem dX3_freeHole_27 : decode cX3_freeHole 27 = .ok (.aaload, 1) := by decide +kernel
theorem dX3_freeHole_28 : decode cX3_freeHole 28 = .ok (.iload_n 1, 1) := by decide +kernel
theorem dX3_freeHole_29 : decode cX3_freeHole 29 = .ok (.iaload, 1) := by decide +kernel
theorem dX3_freeHole_30 : decode cX3_freeHole 30 = .ok (.iconst (-1), 1) := by decide +kernel
theorem dX3_freeHole_31 : decode cX3_freeHole 31 = .ok (.if_icmp .ne 5, 3) := by decide +kernel
theorem dX3_freeHole_34 : decode cX3_freeHole 34 = .ok (.iload_n 1, 1) := by decide +kernel
theorem dX3_freeHole_35 : decode cX3_freeHole 35 = .ok (.ireturn, 1) := by decide +kernel
theorem dX3_freeHole_36 : decode cX3_freeHole 36 = .ok (.iinc 1 1, 3) := by decide +kernel
theorem dX3_freeHole_39 : decode cX3_freeHole 39 = .ok (.goto (-37), 3) := by decide +kernel
theorem dX3_freeHole_42 : decode cX3_freeHole 42 = .ok (.iconst (-1), 1) := by decide +kernel
theorem dX3_freeHole_43 : decode cX3_freeHole 43 = .ok (.ireturn, 1) := by decide +kernel
set_option maxRecDepth 20000 in
theorem ggX3_lateIsAsGood_X3_sittingIfAllCame : GoodIn wsX3_lateIsAsGood wsX3_sittingIfAllCame := goodIn_r _ [6, 7, 1, 8, 9, 10, 11, 12, 13, 14, 15, 16, 17, 18, 19, 20, 21, 22, 23, 24, 25, 26, 27, 28, 29, 30, 31, 32, 33, 34, 35, 36, 37, 38, 39, 40, 41, 42, 43, 44, 45, 46, 47, 48, 5, 49, 50, 51, 52, 53, 54, 55, 56, 57, 58, 59, 60, 61, 62, 63, 64, 65, 66, 67, 68, 69, 70, 71, 72, 73, 74, 75, 76, 77, 78, 79, 80, 81, 82, 83, 84, 85, 86, 87, 88, 89, 90, 91, 92, 93, 94, 95, 96, 97, 98, 99, 100, 101, 102, 103, 104, 105, 106, 107, 108, 109, 110, 111, 112] (by decide +kernel) (by decide +kernel)
set_option maxRecDepth 20000 in
theorem gX3_lateIsAsGood_X3_sittingIfAllCame : GoodIn wsX3_lateIsAsGood (wsV RX3 214 RX3 yX3_sittingIfAllCame wsX3_sittingIfAllCame) := goodIn_app (goodIn_of _ (by decide +kernel)) ggX3_lateIsAsGood_X3_sittingIfAllCame
theorem dX3_lateIsAsGood_0 : decode cX3_lateIsAsGood 0 = .ok (.aload_n 0, 1) := by decide +kernel
theorem dX3_lateIsAsGood_1 : decode cX3_lateIsAsGood 1 = .ok (.sipush 1439, 3) := by decide +kernel
theorem dX3_lateIsAsGood_4 : decode cX3_lateIsAsGood 4 = .ok (.invokevirtual 214, 3) := by decide +kernel
theorem dX3_lateIsAsGood_7 : decode cX3_lateIsAsGood 7 = .ok (.aload_n 0, 1) := by decide +kernel
theorem dX3_lateIsAsGood_8 : decode cX3_lateIsAsGood 8 = .ok (.aload_n 0, 1) := by decide +kernel
theorem dX3_lateIsAsGood_9 : decode cX3_lateIsAsGood 9 = .ok (.getfield 10, 3) := by decide +kernel
theorem dX3_lateIsAsGood_12 : decode cX3_lateIsAsGood 12 = .ok (.getfield 217, 3) := by decide +kernel
theorem dX3_lateIsAsGood_15 : decode cX3_lateIsAsGood 15 = .ok (.invokevirtual 214, 3) := by decide +kernel
theorem dX3_lateIsAsGood_18 : decode cX3_lateIsAsGood 18 = .ok (.if_icmp .ge 7, 3) := by decide +kernel
theorem dX3_lateIsAsGood_21 : decode cX3_lateIsAsGood 21 = .ok (.iconst 0, 1) := by decide +kernel
theorem dX3_lateIsAsGood_22 : decode cX3_lateIsAsGood 22 = .ok (.goto 4, 3) := by decide +kernel
theorem dX3_lateIsAsGood_25 : decode cX3_lateIsAsGood 25 = .ok (.iconst 1, 1) := by decide +kernel
theorem dX3_lateIsAsGood_26 : decode cX3_lateIsAsGood 26 = .ok (.ireturn, 1) := by decide +kernel
set_option maxRecDepth 20000 in
theorem ggX3_homeShare_X0_doveCount : GoodIn wsX3_homeShare wsX0_doveCount := goodIn_r _ [6, 7, 8, 9, 5, 10, 11, 25, 26, 27, 28, 29, 30, 31, 32, 33, 34] (by decide +kernel) (by decide +kernel)
set_option maxRecDepth 20000 in
theorem gX3_homeShare_X0_doveCount : GoodIn wsX3_homeShare (wsV RX3 220 RX0 yX0_doveCount wsX0_doveCount) := goodIn_app (goodIn_of _ (by decide +kernel)) ggX3_homeShare_X0_doveCount
set_option maxRecDepth 20000 in
theorem ggX3_homeShare_X0_inOwnHoles : GoodIn wsX3_homeShare wsX0_inOwnHoles := goodIn_r _ [15, 11, 7, 8, 9, 5, 10, 25, 26, 27, 28, 29, 30, 31, 32, 33, 34] (by decide +kernel) (by decide +kernel)
set_option maxRecDepth 20000 in
theorem gX3_homeShare_X0_inOwnHoles : GoodIn wsX3_homeShare (wsV RX3 223 RX0 yX0_inOwnHoles wsX0_inOwnHoles) := goodIn_app (goodIn_of _ (by decide +kernel)) ggX3_homeShare_X0_inOwnHoles
theorem dX3_homeShare_0 : decode cX3_homeShare 0 = .ok (.aload_n 0, 1) := by decide +kernel
theorem dX3_homeShare_1 : decode cX3_homeShare 1 = .ok (.getfield 10, 3) := by decide +kernel
theorem dX3_homeShare_4 : decode cX3_homeShare 4 = .ok (.invokevirtual 220, 3) := by decide +kernel
theorem dX3_homeShare_7 : decode cX3_homeShare 7 = .ok (.istore_n 1, 1) := by decide +kernel
theorem dX3_homeShare_8 : decode cX3_homeShare 8 = .ok (.iload_n 1, 1) := by decide +kernel
theorem dX3_homeShare_9 : decode cX3_homeShare 9 = .ok (.ifCond .ne 5, 3) := by decide +kernel
theorem dX3_homeShare_12 : decode cX3_homeShare 12 = .ok (.dconst 1, 1) := by decide +kernel
theorem dX3_homeShare_13 : decode cX3_homeShare 13 = .ok (.dreturn, 1) := by decide +kernel
theorem dX3_homeShare_14 : decode cX3_homeShare 14 = .ok (.aload_n 0, 1) := by decide +kernel
theorem dX3_homeShare_15 : decode cX3_homeShare 15 = .ok (.getfield 10, 3) := by decide +kernel
theorem dX3_homeShare_18 : decode cX3_homeShare 18 = .ok (.invokevirtual 223, 3) := by decide +kernel
theorem dX3_homeShare_21 : decode cX3_homeShare 21 = .ok (.i2d, 1) := by decide +kernel
theorem dX3_homeShare_22 : decode cX3_homeShare 22 = .ok (.iload_n 1, 1) := by decide +kernel
theorem dX3_homeShare_23 : decode cX3_homeShare 23 = .ok (.i2d, 1) := by decide +kernel
theorem dX3_homeShare_24 : decode cX3_homeShare 24 = .ok (.ddiv, 1) := by decide +kernel
theorem dX3_homeShare_25 : decode cX3_homeShare 25 = .ok (.dreturn, 1) := by decide +kernel
set_option maxRecDepth 20000 in
theorem ggX3_digest_X3_count : GoodIn wsX3_digest wsX3_count := goodIn_ca (goodIn_r _ [9, 10, 11, 12, 2, 13, 14, 15, 16, 17, 18, 19, 20, 21, 22, 23, 24, 25, 26, 27, 28, 29, 30, 31, 32, 33, 34, 35, 36, 37, 38, 39, 40, 41, 42, 43, 44, 45, 46, 47, 48, 49, 50, 51, 52, 53, 54, 8, 55, 56, 57, 58, 59, 168, 169, 170, 171, 172, 173, 174, 175, 176, 177, 178, 179, 180, 181, 182, 183, 184, 185, 186] (by decide +kernel) (by decide +kernel)) (goodIn_sub (fun _ h => List.mem_cons_of_mem _ (List.mem_append_right _ h)) (by decide +kernel))
set_option maxRecDepth 20000 in
theorem gX3_digest_X3_count : GoodIn wsX3_digest (wsV RX3 228 RX3 yX3_count wsX3_count) := goodIn_app (goodIn_of _ (by decide +kernel)) ggX3_digest_X3_count
set_option maxRecDepth 20000 in
theorem ggX3_digest_X3_mix : GoodIn wsX3_digest wsX3_mix := goodIn_r _ [62, 63] (by decide +kernel) (by decide +kernel)
set_option maxRecDepth 20000 in
theorem gX3_digest_X3_mix : GoodIn wsX3_digest (va_wsS RX3 231 yX3_mix wsX3_mix) := goodIn_app (goodIn_of _ (by decide +kernel)) ggX3_digest_X3_mix
set_option maxRecDepth 20000 in
theorem ggX3_digest_X0_exists : GoodIn wsX3_digest wsX0_exists := goodIn_r _ [31, 32, 177, 178, 179, 180, 181, 182, 183, 184, 185, 186] (by decide +kernel) (by decide +kernel)
set_option maxRecDepth 20000 in
theorem gX3_digest_X0_exists : GoodIn wsX3_digest (wsV RX3 235 RX0 yX0_exists wsX0_exists) := goodIn_app (goodIn_of _ (by decide +kernel)) ggX3_digest_X0_exists
set_option maxRecDepth 20000 in
theorem ggX3_digest_X3_mixDove : GoodIn wsX3_digest wsX3_mixDove := goodIn_r _ [68, 2, 69, 60, 61, 8, 62, 63, 70, 71, 72, 16, 73, 32, 19, 74, 75, 76, 77, 78, 79, 80, 81, 82, 83, 84, 85, 86, 45, 23, 22, 87, 88, 18, 20, 21, 89, 90, 91, 92, 93, 94, 95, 96, 97, 98, 99, 100, 101, 50, 51, 52, 53, 54, 55, 102, 103, 104, 105, 28, 29, 30, 31, 106, 107, 108, 109, 110, 111, 112, 113, 114, 115, 116, 117, 118, 119, 120, 121, 122, 123, 124, 125, 126, 127, 128, 129, 130, 131, 132, 133, 134, 38, 39, 40, 168, 169, 170, 171, 172, 173, 174, 175, 176, 177, 178, 179, 180, 181, 182, 183, 184, 185, 186, 187, 188, 189] (by decide +kernel) (by decide +kernel)
set_option maxRecDepth 20000 in
theorem gX3_digest_X3_mixDove : GoodIn wsX3_digest (wsV RX3 238 RX3 yX3_mixDove wsX3_mixDove) := goodIn_app (goodIn_of _ (by decide +kernel)) ggX3_digest_X3_mixDove
set_option maxRecDepth 20000 in
theorem ggX3_digest_X3_mixWay : GoodIn wsX3_digest wsX3_mixWay := goodIn_r _ [138, 2, 60, 61, 8, 62, 63, 168, 169, 170, 171, 172, 173, 174, 175, 176, 177, 178, 179, 180, 181, 182, 183, 184, 185, 186, 187, 188, 189] (by decide +kernel) (by decide +kernel)
set_option maxRecDepth 20000 in
theorem gX3_digest_X3_mixWay : GoodIn wsX3_digest (wsV RX3 242 RX3 yX3_mixWay wsX3_mixWay) := goodIn_app (goodIn_of _ (by decide +kernel)) ggX3_digest_X3_mixWay
set_option maxRecDepth 20000 in
theorem ggX3_digest_X3_freeHole : GoodIn wsX3_digest wsX3_freeHole := goodIn_r _ [142, 2, 143, 51, 52, 16, 53, 45, 54, 8, 55, 168, 169, 170, 171, 172, 173, 174, 175, 176, 177, 178, 179, 180, 181, 182, 183, 184, 185, 186] (by decide +kernel) (by decide +kernel)
set_option maxRecDepth 20000 in
theorem gX3_digest_X3_freeHole : GoodIn wsX3_digest (wsV RX3 246 RX3 yX3_freeHole wsX3_freeHole) := goodIn_app (goodIn_of _ (by decide +kernel)) ggX3_digest_X3_freeHole
set_option maxRecDepth 20000 in
theorem ggX3_digest_X3_lateIsAsGood : GoodIn wsX3_digest wsX3_lateIsAsGood := goodIn_r _ [147, 2, 148, 149, 150, 8, 151, 78, 79, 80, 81, 16, 82, 32, 83, 84, 85, 86, 45, 23, 22, 87, 88, 18, 19, 20, 21, 89, 90, 91, 92, 93, 94, 95, 96, 97, 64, 29, 30, 31, 98, 99, 100, 101, 50, 51, 52, 53, 54, 55, 102, 103, 104, 105, 28, 106, 107, 108, 109, 110, 111, 112, 113, 114, 115, 116, 117, 118, 119, 120, 121, 122, 123, 124, 125, 126, 127, 128, 129, 152, 34, 35, 36, 24, 25, 26, 27, 37, 38, 39, 40, 168, 169, 170, 171, 172, 173, 174, 175, 176, 177, 178, 179, 180, 181, 182, 183, 184, 185, 186, 187, 188, 189] (by decide +kernel) (by decide +kernel)
set_option maxRecDepth 20000 in
theorem gX3_digest_X3_lateIsAsGood : GoodIn wsX3_digest (wsV RX3 249 RX3 yX3_lateIsAsGood wsX3_lateIsAsGood) := goodIn_app (goodIn_of _ (by decide +kernel)) ggX3_digest_X3_lateIsAsGood
set_option maxRecDepth 20000 in
theorem ggX3_digest_X3_homeShare : GoodIn wsX3_digest wsX3_homeShare := goodIn_r _ [156, 2, 157, 25, 26, 16, 27, 28, 29, 30, 31, 32, 158, 159, 160, 161, 168, 169, 170, 171, 172, 173, 174, 175, 176, 177, 178, 179, 180, 181, 182, 183, 184, 185, 186] (by decide +kernel) (by decide +kernel)
set_option maxRecDepth 20000 in
theorem gX3_digest_X3_homeShare : GoodIn wsX3_digest (wsV RX3 252 RX3 yX3_homeShare wsX3_homeShare) := goodIn_app (goodIn_of _ (by decide +kernel)) ggX3_digest_X3_homeShare
set_option maxRecDepth 20000 in
theorem ggX3_digest_X3_bitsOfShare : GoodIn wsX3_digest wsX3_bitsOfShare := goodIn_r _ [164, 165, 166, 167] (by decide +kernel) (by decide +kernel)
set_option maxRecDepth 20000 in
theorem gX3_digest_X3_bitsOfShare : GoodIn wsX3_digest (va_wsS RX3 256 yX3_bitsOfShare wsX3_bitsOfShare) := goodIn_app (goodIn_of _ (by decide +kernel)) ggX3_digest_X3_bitsOfShare
theorem dX3_digest_0 : decode cX3_digest 0 = .ok (.ldc2_w 226, 3) := by decide +kernel
theorem dX3_digest_3 : decode cX3_digest 3 = .ok (.lstore_n 1, 1) := by decide +kernel
theorem dX3_digest_4 : decode cX3_digest 4 = .ok (.iconst 0, 1) := by decide +kernel
theorem dX3_digest_5 : decode cX3_digest 5 = .ok (.istore_n 3, 1) := by decide +kernel
theorem dX3_digest_6 : decode cX3_digest 6 = .ok (.iload_n 3, 1) := by decide +kernel
theorem dX3_digest_7 : decode cX3_digest 7 = .ok (.bipush 18, 2) := by decide +kernel
theorem dX3_digest_9 : decode cX3_digest 9 = .ok (.if_icmp .ge 20, 3) := by decide +kernel
theorem dX3_digest_12 : decode cX3_digest 12 = .ok (.lload_n 1, 1) := by decide +kernel
theorem dX3_digest_13 : decode cX3_digest 13 = .ok (.aload_n 0, 1) := by decide +kernel
theorem dX3_digest_14 : decode cX3_digest 14 = .ok (.iload_n 3, 1) := by decide +kernel
theorem dX3_digest_15 : decode cX3_digest 15 = .ok (.invokevirtual 228, 3) := by decide +kernel
theorem dX3_digest_18 : decode cX3_digest 18 = .ok (.i2l, 1) := by decide +kernel
theorem dX3_digest_19 : decode cX3_digest 19 = .ok (.invokestatic 231, 3) := by decide +kernel
theorem dX3_digest_22 : decode cX3_digest 22 = .ok (.lstore_n 1, 1) := by decide +kernel
theorem dX3_digest_23 : decode cX3_digest 23 = .ok (.iinc 3 1, 3) := by decide +kernel
theorem dX3_digest_26 : decode cX3_digest 26 = .ok (.goto (-20), 3) := by decide +kernel
theorem dX3_digest_29 : decode cX3_digest 29 = .ok (.iconst 0, 1) := by decide +kernel
theorem dX3_digest_30 : decode cX3_digest 30 = .ok (.istore_n 3, 1) := by decide +kernel
theorem dX3_digest_31 : decode cX3_digest 31 = .ok (.iload_n 3, 1) := by decide +kernel
theorem dX3_digest_32 : decode cX3_digest 32 = .ok (.bipush 16, 2) := by decide +kernel
theorem dX3_digest_34 : decode cX3_digest 34 = .ok (.if_icmp .ge 27, 3) := by decide +kernel
theorem dX3_digest_37 : decode cX3_digest 37 = .ok (.aload_n 0, 1) := by decide +kernel
theorem dX3_digest_38 : decode cX3_digest 38 = .ok (.getfield 10, 3) := by decide +kernel
theorem dX3_digest_41 : decode cX3_digest 41 = .ok (.iload_n 3, 1) := by decide +kernel
theorem dX3_digest_42 : decode cX3_digest 42 = .ok (.invokevirtual 235, 3) := by decide +kernel
theorem dX3_digest_45 : decode cX3_digest 45 = .ok (.ifCond .eq 10, 3) := by decide +kernel
theorem dX3_digest_48 : decode cX3_digest 48 = .ok (.aload_n 0, 1) := by decide +kernel
theorem dX3_digest_49 : decode cX3_digest 49 = .ok (.lload_n 1, 1) := by decide +kernel
theorem dX3_digest_50 : decode cX3_digest 50 = .ok (.iload_n 3, 1) := by decide +kernel
theorem dX3_digest_51 : decode cX3_digest 51 = .ok (.invokevirtual 238, 3) := by decide +kernel
theorem dX3_digest_54 : decode cX3_digest 54 = .ok (.lstore_n 1, 1) := by decide +kernel
theorem dX3_digest_55 : decode cX3_digest 55 = .ok (.iinc 3 1, 3) := by decide +kernel
theorem dX3_digest_58 : decode cX3_digest 58 = .ok (.goto (-27), 3) := by decide +kernel
theorem dX3_digest_61 : decode cX3_digest 61 = .ok (.iconst 0, 1) := by decide +kernel
theorem dX3_digest_62 : decode cX3_digest 62 = .ok (.istore_n 3, 1) := by decide +kernel
theorem dX3_digest_63 : decode cX3_digest 63 = .ok (.iload_n 3, 1) := by decide +kernel
theorem dX3_digest_64 : decode cX3_digest 64 = .ok (.bipush 24, 2) := by decide +kernel
theorem dX3_digest_66 : decode cX3_digest 66 = .ok (.if_icmp .ge 42, 3) := by decide +kernel
theorem dX3_digest_69 : decode cX3_digest 69 = .ok (.iconst 0, 1) := by decide +kernel
theorem dX3_digest_70 : decode cX3_digest 70 = .ok (.istore 4, 2) := by decide +kernel
theorem dX3_digest_72 : decode cX3_digest 72 = .ok (.iload 4, 2) := by decide +kernel
theorem dX3_digest_74 : decode cX3_digest 74 = .ok (.iconst 3, 1) := by decide +kernel
theorem dX3_digest_75 : decode cX3_digest 75 = .ok (.if_icmp .ge 27, 3) := by decide +kernel
theorem dX3_digest_78 : decode cX3_digest 78 = .ok (.lload_n 1, 1) := by decide +kernel
theorem dX3_digest_79 : decode cX3_digest 79 = .ok (.aload_n 0, 1) := by decide +kernel
theorem dX3_digest_80 : decode cX3_digest 80 = .ok (.getfield 10, 3) := by decide +kernel
theorem dX3_digest_83 : decode cX3_digest 83 = .ok (.getfield 179, 3) := by decide +kernel
theorem dX3_digest_86 : decode cX3_digest 86 = .ok (.iload 4, 2) := by decide +kernel
theorem dX3_digest_88 : decode cX3_digest 88 = .ok (.aaload, 1) := by decide +kernel
theorem dX3_digest_89 : decode cX3_digest 89 = .ok (.iload_n 3, 1) := by decide +kernel
theorem dX3_digest_90 : decode cX3_digest 90 = .ok (.iaload, 1) := by decide +kernel
theorem dX3_digest_91 : decode cX3_digest 91 = .ok (.i2l, 1) := by decide +kernel
theorem dX3_digest_92 : decode cX3_digest 92 = .ok (.invokestatic 231, 3) := by decide +kernel
theorem dX3_digest_95 : decode cX3_digest 95 = .ok (.lstore_n 1, 1) := by decide +kernel
theorem dX3_digest_96 : decode cX3_digest 96 = .ok (.iinc 4 1, 3) := by decide +kernel
theorem dX3_digest_99 : decode cX3_digest 99 = .ok (.goto (-27), 3) := by decide +kernel
theorem dX3_digest_102 : decode cX3_digest 102 = .ok (.iinc 3 1, 3) := by decide +kernel
theorem dX3_digest_105 : decode cX3_digest 105 = .ok (.goto (-42), 3) := by decide +kernel
theorem dX3_digest_108 : decode cX3_digest 108 = .ok (.aload_n 0, 1) := by decide +kernel
theorem dX3_digest_109 : decode cX3_digest 109 = .ok (.lload_n 1, 1) := by decide +kernel
theorem dX3_digest_110 : decode cX3_digest 110 = .ok (.invokevirtual 242, 3) := by decide +kernel
theorem dX3_digest_113 : decode cX3_digest 113 = .ok (.lstore_n 1, 1) := by decide +kernel
theorem dX3_digest_114 : decode cX3_digest 114 = .ok (.lload_n 1, 1) := by decide +kernel
theorem dX3_digest_115 : decode cX3_digest 115 = .ok (.aload_n 0, 1) := by decide +kernel
theorem dX3_digest_116 : decode cX3_digest 116 = .ok (.getfield 10, 3) := by decide +kernel
theorem dX3_digest_119 : decode cX3_digest 119 = .ok (.getfield 157, 3) := by decide +kernel
theorem dX3_digest_122 : decode cX3_digest 122 = .ok (.iconst 0, 1) := by decide +kernel
theorem dX3_digest_123 : decode cX3_digest 123 = .ok (.iaload, 1) := by decide +kernel
theorem dX3_digest_124 : decode cX3_digest 124 = .ok (.i2l, 1) := by decide +kernel
theorem dX3_digest_125 : decode cX3_digest 125 = .ok (.invokestatic 231, 3) := by decide +kernel
theorem dX3_digest_128 : decode cX3_digest 128 = .ok (.lstore_n 1, 1) := by decide +kernel
theorem dX3_digest_129 : decode cX3_digest 129 = .ok (.lload_n 1, 1) := by decide +kernel
theorem dX3_digest_130 : decode cX3_digest 130 = .ok (.aload_n 0, 1) := by decide +kernel
theorem dX3_digest_131 : decode cX3_digest 131 = .ok (.getfield 10, 3) := by decide +kernel
theorem dX3_digest_134 : decode cX3_digest 134 = .ok (.getfield 157, 3) := by decide +kernel
theorem dX3_digest_137 : decode cX3_digest 137 = .ok (.iconst 1, 1) := by decide +kernel
theorem dX3_digest_138 : decode cX3_digest 138 = .ok (.iaload, 1) := by decide +kernel
theorem dX3_digest_139 : decode cX3_digest 139 = .ok (.i2l, 1) := by decide +kernel
theorem dX3_digest_140 : decode cX3_digest 140 = .ok (.invokestatic 231, 3) := by decide +kernel
theorem dX3_digest_143 : decode cX3_digest 143 = .ok (.lstore_n 1, 1) := by decide +kernel
theorem dX3_digest_144 : decode cX3_digest 144 = .ok (.lload_n 1, 1) := by decide +kernel
theorem dX3_digest_145 : decode cX3_digest 145 = .ok (.aload_n 0, 1) := by decide +kernel
theorem dX3_digest_146 : decode cX3_digest 146 = .ok (.invokevirtual 246, 3) := by decide +kernel
theorem dX3_digest_149 : decode cX3_digest 149 = .ok (.i2l, 1) := by decide +kernel
theorem dX3_digest_150 : decode cX3_digest 150 = .ok (.invokestatic 231, 3) := by decide +kernel
theorem dX3_digest_153 : decode cX3_digest 153 = .ok (.lstore_n 1, 1) := by decide +kernel
theorem dX3_digest_154 : decode cX3_digest 154 = .ok (.lload_n 1, 1) := by decide +kernel
theorem dX3_digest_155 : decode cX3_digest 155 = .ok (.aload_n 0, 1) := by decide +kernel
theorem dX3_digest_156 : decode cX3_digest 156 = .ok (.invokevirtual 249, 3) := by decide +kernel
theorem dX3_digest_159 : decode cX3_digest 159 = .ok (.i2l, 1) := by decide +kernel
theorem dX3_digest_160 : decode cX3_digest 160 = .ok (.invokestatic 231, 3) := by decide +kernel
theorem dX3_digest_163 : decode cX3_digest 163 = .ok (.lstore_n 1, 1) := by decide +kernel
theorem dX3_digest_164 : decode cX3_digest 164 = .ok (.lload_n 1, 1) := by decide +kernel
theorem dX3_digest_165 : decode cX3_digest 165 = .ok (.aload_n 0, 1) := by decide +kernel
theorem dX3_digest_166 : decode cX3_digest 166 = .ok (.invokevirtual 252, 3) := by decide +kernel
theorem dX3_digest_169 : decode cX3_digest 169 = .ok (.invokestatic 256, 3) := by decide +kernel
theorem dX3_digest_172 : decode cX3_digest 172 = .ok (.invokestatic 231, 3) := by decide +kernel
theorem dX3_digest_175 : decode cX3_digest 175 = .ok (.lstore_n 1, 1) := by decide +kernel
theorem dX3_digest_176 : decode cX3_digest 176 = .ok (.lload_n 1, 1) := by decide +kernel
theorem dX3_digest_177 : decode cX3_digest 177 = .ok (.aload_n 0, 1) := by decide +kernel
theorem dX3_digest_178 : decode cX3_digest 178 = .ok (.getfield 38, 3) := by decide +kernel
theorem dX3_digest_181 : decode cX3_digest 181 = .ok (.i2l, 1) := by decide +kernel
theorem dX3_digest_182 : decode cX3_digest 182 = .ok (.invokestatic 231, 3) := by decide +kernel
theorem dX3_digest_185 : decode cX3_digest 185 = .ok (.lstore_n 1, 1) := by decide +kernel
theorem dX3_digest_186 : decode cX3_digest 186 = .ok (.iconst 0, 1) := by decide +kernel
theorem dX3_digest_187 : decode cX3_digest 187 = .ok (.istore_n 3, 1) := by decide +kernel
theorem dX3_digest_188 : decode cX3_digest 188 = .ok (.iload_n 3, 1) := by decide +kernel
theorem dX3_digest_189 : decode cX3_digest 189 = .ok (.aload_n 0, 1) := by decide +kernel
theorem dX3_digest_190 : decode cX3_digest 190 = .ok (.getfield 38, 3) := by decide +kernel
theorem dX3_digest_193 : decode cX3_digest 193 = .ok (.if_icmp .ge 21, 3) := by decide +kernel
theorem dX3_digest_196 : decode cX3_digest 196 = .ok (.lload_n 1, 1) := by decide +kernel
theorem dX3_digest_197 : decode cX3_digest 197 = .ok (.aload_n 0, 1) := by decide +kernel
theorem dX3_digest_198 : decode cX3_digest 198 = .ok (.getfield 34, 3) := by decide +kernel
theorem dX3_digest_201 : decode cX3_digest 201 = .ok (.iload_n 3, 1) := by decide +kernel
theorem dX3_digest_202 : decode cX3_digest 202 = .ok (.iaload, 1) := by decide +kernel
theorem dX3_digest_203 : decode cX3_digest 203 = .ok (.i2l, 1) := by decide +kernel
theorem dX3_digest_204 : decode cX3_digest 204 = .ok (.invokestatic 231, 3) := by decide +kernel
theorem dX3_digest_207 : decode cX3_digest 207 = .ok (.lstore_n 1, 1) := by decide +kernel
theorem dX3_digest_208 : decode cX3_digest 208 = .ok (.iinc 3 1, 3) := by decide +kernel
theorem dX3_digest_211 : decode cX3_digest 211 = .ok (.goto (-23), 3) := by decide +kernel
theorem dX3_digest_214 : decode cX3_digest 214 = .ok (.lload_n 1, 1) := by decide +kernel
theorem dX3_digest_215 : decode cX3_digest 215 = .ok (.lreturn, 1) := by decide +kernel
