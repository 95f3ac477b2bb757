theorem dX3_step_0 : decode cX3_step 0 = .ok (.iload_n 1, 1) := by decide +kernel
theorem dX3_step_1 : decode cX3_step 1 = .ok (.ifCond .lt 12, 3) := by decide +kernel
theorem dX3_step_4 : decode cX3_step 4 = .ok (.iload_n 2, 1) := by decide +kernel
theorem dX3_step_5 : decode cX3_step 5 = .ok (.ifCond .lt 8, 3) := by decide +kernel
theorem dX3_step_8 : decode cX3_step 8 = .ok (.iload_n 2, 1) := by decide +kernel
theorem dX3_step_9 : decode cX3_step 9 = .ok (.iconst 1, 1) := by decide +kernel
theorem dX3_step_10 : decode cX3_step 10 = .ok (.if_icmp .le 13, 3) := by decide +kernel
theorem dX3_step_13 : decode cX3_step 13 = .ok (.new 52, 3) := by decide +kernel
theorem dX3_step_16 : decode cX3_step 16 = .ok (.dup, 1) := by decide +kernel
theorem dX3_step_17 : decode cX3_step 17 = .ok (.ldc 187, 2) := by decide +kernel
theorem dX3_step_19 : decode cX3_step 19 = .ok (.invokespecial 56, 3) := by decide +kernel
theorem dX3_step_22 : decode cX3_step 22 = .ok (.athrow, 1) := by decide +kernel
theorem dX3_step_23 : decode cX3_step 23 = .ok (.iload_n 1, 1) := by decide +kernel
theorem dX3_step_24 : decode cX3_step 24 = .ok (.aload_n 0, 1) := by decide +kernel
theorem dX3_step_25 : decode cX3_step 25 = .ok (.getfield 10, 3) := by decide +kernel
theorem dX3_step_28 : decode cX3_step 28 = .ok (.getfield 189, 3) := by decide +kernel
theorem dX3_step_31 : decode cX3_step 31 = .ok (.getfield 193, 3) := by decide +kernel
theorem dX3_step_34 : decode cX3_step 34 = .ok (.if_icmp .lt 5, 3) := by decide +kernel
theorem dX3_step_37 : decode cX3_step 37 = .ok (.iconst (-1), 1) := by decide +kernel
theorem dX3_step_38 : decode cX3_step 38 = .ok (.ireturn, 1) := by decide +kernel
theorem dX3_step_39 : decode cX3_step 39 = .ok (.iload_n 2, 1) := by decide +kernel
theorem dX3_step_40 : decode cX3_step 40 = .ok (.ifCond .ne 18, 3) := by decide +kernel
theorem dX3_step_43 : decode cX3_step 43 = .ok (.aload_n 0, 1) := by decide +kernel
theorem dX3_step_44 : decode cX3_step 44 = .ok (.getfield 10, 3) := by decide +kernel
theorem dX3_step_47 : decode cX3_step 47 = .ok (.getfield 189, 3) := by decide +kernel
theorem dX3_step_50 : decode cX3_step 50 = .ok (.getfield 198, 3) := by decide +kernel
theorem dX3_step_53 : decode cX3_step 53 = .ok (.iload_n 1, 1) := by decide +kernel
theorem dX3_step_54 : decode cX3_step 54 = .ok (.iaload, 1) := by decide +kernel
theorem dX3_step_55 : decode cX3_step 55 = .ok (.goto 15, 3) := by decide +kernel
theorem dX3_step_58 : decode cX3_step 58 = .ok (.aload_n 0, 1) := by decide +kernel
theorem dX3_step_59 : decode cX3_step 59 = .ok (.getfield 10, 3) := by decide +kernel
theorem dX3_step_62 : decode cX3_step 62 = .ok (.getfield 189, 3) := by decide +kernel
theorem dX3_step_65 : decode cX3_step 65 = .ok (.getfield 201, 3) := by decide +kernel
theorem dX3_step_68 : decode cX3_step 68 = .ok (.iload_n 1, 1) := by decide +kernel
theorem dX3_step_69 : decode cX3_step 69 = .ok (.iaload, 1) := by decide +kernel
theorem dX3_step_70 : decode cX3_step 70 = .ok (.ireturn, 1) := by decide +kernel
set_option maxRecDepth 20000 in
theorem ggX3_whyNot_X3_needDove : GoodIn wsX3_whyNot wsX3_needDove := goodIn_ca (goodIn_r _ [6, 7, 8, 1, 9, 10, 11, 12, 13, 14, 25, 26, 27, 28, 29, 30, 31, 32, 33, 34, 35, 36, 37, 38, 39, 40, 41, 42, 43] (by decide +kernel) (by decide +kernel)) (goodIn_sub (fun _ h => List.mem_cons_of_mem _ (List.mem_append_left _ (List.mem_append_right _ h))) (by decide +kernel))
set_option maxRecDepth 20000 in
theorem gX3_whyNot_X3_needDove : GoodIn wsX3_whyNot (wsV RX3 75 RX3 yX3_needDove wsX3_needDove) := goodIn_app (goodIn_of _ (by decide +kernel)) ggX3_whyNot_X3_needDove
set_option maxRecDepth 20000 in
theorem ggX3_whyNot_X3_needTime : GoodIn wsX3_whyNot wsX3_needTime := goodIn_ca (goodIn_r _ [17, 18, 19] (by decide +kernel) (by decide +kernel)) (goodIn_sub (fun _ h => List.mem_cons_of_mem _ (List.mem_append_right _ h)) (by decide +kernel))
set_option maxRecDepth 20000 in
theorem gX3_whyNot_X3_needTime : GoodIn wsX3_whyNot (va_wsS RX3 115 yX3_needTime wsX3_needTime) := goodIn_app (goodIn_of _ (by decide +kernel)) ggX3_whyNot_X3_needTime
set_option maxRecDepth 20000 in
theorem ggX3_whyNot_X0_reasonNotHome : GoodIn wsX3_whyNot wsX0_reasonNotHome := goodIn_r _ [23, 14, 24, 34, 35, 36, 37, 38, 39, 40, 41, 42, 43] (by decide +kernel) (by decide +kernel)
set_option maxRecDepth 20000 in
theorem gX3_whyNot_X0_reasonNotHome : GoodIn wsX3_whyNot (wsV RX3 118 RX0 yX0_reasonNotHome wsX0_reasonNotHome) := goodIn_app (goodIn_of _ (by decide +kernel)) ggX3_whyNot_X0_reasonNotHome
theorem dX3_whyNot_0 : decode cX3_whyNot 0 = .ok (.aload_n 0, 1) := by decide +kernel
theorem dX3_whyNot_1 : decode cX3_whyNot 1 = .ok (.iload_n 1, 1) := by decide +kernel
theorem dX3_whyNot_2 : decode cX3_whyNot 2 = .ok (.invokevirtual 75, 3) := by decide +kernel
theorem dX3_whyNot_5 : decode cX3_whyNot 5 = .ok (.iload_n 2, 1) := by decide +kernel
theorem dX3_whyNot_6 : decode cX3_whyNot 6 = .ok (.invokestatic 115, 3) := by decide +kernel
theorem dX3_whyNot_9 : decode cX3_whyNot 9 = .ok (.aload_n 0, 1) := by decide +kernel
theorem dX3_whyNot_10 : decode cX3_whyNot 10 = .ok (.getfield 10, 3) := by decide +kernel
theorem dX3_whyNot_13 : decode cX3_whyNot 13 = .ok (.iload_n 1, 1) := by decide +kernel
theorem dX3_whyNot_14 : decode cX3_whyNot 14 = .ok (.iload_n 2, 1) := by decide +kernel
theorem dX3_whyNot_15 : decode cX3_whyNot 15 = .ok (.invokevirtual 118, 3) := by decide +kernel
theorem dX3_whyNot_18 : decode cX3_whyNot 18 = .ok (.ireturn, 1) := by decide +kernel
set_option maxRecDepth 20000 in
theorem ggX3_ifHome_X3_needDove : GoodIn wsX3_ifHome wsX3_needDove := goodIn_ca (goodIn_r _ [7, 8, 9, 10, 11, 12, 13, 14, 15, 16, 102, 103, 104, 105, 106, 107, 108, 109, 110, 111, 112, 113, 114, 115, 116, 117, 118, 119, 120] (by decide +kernel) (by decide +kernel)) (goodIn_sub (fun _ h => List.mem_cons_of_mem _ (List.mem_append_right _ h)) (by decide +kernel))
set_option maxRecDepth 20000 in
theorem gX3_ifHome_X3_needDove : GoodIn wsX3_ifHome (wsV RX3 75 RX3 yX3_needDove wsX3_needDove) := goodIn_app (goodIn_of _ (by decide +kernel)) ggX3_ifHome_X3_needDove
set_option maxRecDepth 20000 in
theorem ggX3_ifHome_X3_needTime : GoodIn wsX3_ifHome wsX3_needTime := goodIn_ca (goodIn_r _ [19, 1, 2] (by decide +kernel) (by decide +kernel)) (goodIn_sub (fun _ h => List.mem_cons_of_mem _ (List.mem_append_left _ (List.mem_append_right _ h))) (by decide +kernel))
set_option maxRecDepth 20000 in
theorem gX3_ifHome_X3_needTime : GoodIn wsX3_ifHome (va_wsS RX3 115 yX3_needTime wsX3_needTime) := goodIn_app (goodIn_of _ (by decide +kernel)) ggX3_ifHome_X3_needTime
set_option maxRecDepth 20000 in
theorem ggX3_ifHome_X3_tryHome : GoodIn wsX3_ifHome wsX3_tryHome := goodIn_r _ [23, 10, 24, 25, 26, 27, 14, 28, 16, 29, 30, 31, 32, 33, 34, 35, 36, 37, 38, 39, 40, 41, 42, 43, 44, 45, 46, 47, 48, 49, 50, 51, 52, 53, 54, 55, 56, 57, 58, 59, 60, 61, 62, 63, 6, 64, 65, 66, 67, 68, 69, 12, 13, 15, 70, 71, 72, 73, 74, 75, 76, 77, 78, 79, 80, 81, 82, 83, 84, 85, 86, 87, 88, 89, 90, 91, 92, 93, 102, 103, 104, 105, 106, 107, 108, 109, 110, 111, 112, 113, 114, 115, 116, 117, 118, 119, 120, 121, 122, 123] (by decide +kernel) (by decide +kernel)
set_option maxRecDepth 20000 in
theorem gX3_ifHome_X3_tryHome : GoodIn wsX3_ifHome (wsV RX3 204 RX3 yX3_tryHome wsX3_tryHome) := goodIn_app (goodIn_of _ (by decide +kernel)) ggX3_ifHome_X3_tryHome
set_option maxRecDepth 20000 in
theorem ggX3_ifHome_X3_trialNumber : GoodIn wsX3_ifHome wsX3_trialNumber := goodIn_r _ [97, 24, 10, 98, 99, 100, 14, 101, 16, 69, 12, 13, 15, 102, 103, 104, 105, 106, 107, 108, 109, 110, 111, 112, 113, 114, 115, 116, 117, 118, 119, 120] (by decide +kernel) (by decide +kernel)
set_option maxRecDepth 20000 in
theorem gX3_ifHome_X3_trialNumber : GoodIn wsX3_ifHome (wsV RX3 208 RX3 yX3_trialNumber wsX3_trialNumber) := goodIn_app (goodIn_of _ (by decide +kernel)) ggX3_ifHome_X3_trialNumber
theorem dX3_ifHome_0 : decode cX3_ifHome 0 = .ok (.aload_n 0, 1) := by decide +kernel
theorem dX3_ifHome_1 : decode cX3_ifHome 1 = .ok (.iload_n 1, 1) := by decide +kernel
theorem dX3_ifHome_2 : decode cX3_ifHome 2 = .ok (.invokevirtual 75, 3) := by decide +kernel
theorem dX3_ifHome_5 : decode cX3_ifHome 5 = .ok (.iload_n 2, 1) := by decide +kernel
theorem dX3_ifHome_6 : decode cX3_ifHome 6 = .ok (.invokestatic 115, 3) := by decide +kernel
theorem dX3_ifHome_9 : decode cX3_ifHome 9 = .ok (.iload_n 3, 1) := by decide +kernel
theorem dX3_ifHome_10 : decode cX3_ifHome 10 = .ok (.ifCond .lt 8, 3) := by decide +kernel
theorem dX3_ifHome_13 : decode cX3_ifHome 13 = .ok (.iload_n 3, 1) := by decide +kernel
theorem dX3_ifHome_14 : decode cX3_ifHome 14 = .ok (.iconst 2, 1) := by decide +kernel
theorem dX3_ifHome_15 : decode cX3_ifHome 15 = .ok (.if_icmp .le 13, 3) := by decide +kernel
theorem dX3_ifHome_18 : decode cX3_ifHome 18 = .ok (.new 52, 3) := by decide +kernel
theorem dX3_ifHome_21 : decode cX3_ifHome 21 = .ok (.dup, 1) := by decide +kernel
theorem dX3_ifHome_22 : decode cX3_ifHome 22 = .ok (.ldc 177, 2) := by decide +kernel
theorem dX3_ifHome_24 : decode cX3_ifHome 24 = .ok (.invokespecial 56, 3) := by decide +kernel
theorem dX3_ifHome_27 : decode cX3_ifHome 27 = .ok (.athrow, 1) := by decide +kernel
theorem dX3_ifHome_28 : decode cX3_ifHome 28 = .ok (.aload_n 0, 1) := by decide +kernel
theorem dX3_ifHome_29 : decode cX3_ifHome 29 = .ok (.iload_n 1, 1) := by decide +kernel
theorem dX3_ifHome_30 : decode cX3_ifHome 30 = .ok (.iload_n 2, 1) := by decide +kernel
theorem dX3_ifHome_31 : decode cX3_ifHome 31 = .ok (.invokevirtual 204, 3) := by decide +kernel
theorem dX3_ifHome_34 : decode cX3_ifHome 34 = .ok (.ifCond .eq 12, 3) := by decide +kernel
theorem dX3_ifHome_37 : decode cX3_ifHome 37 = .ok (.aload_n 0, 1) := by decide +kernel
theorem dX3_ifHome_38 : decode cX3_ifHome 38 = .ok (.iload_n 1, 1) := by decide +kernel
theorem dX3_ifHome_39 : decode cX3_ifHome 39 = .ok (.iload_n 3, 1) := by decide +kernel
theorem dX3_ifHome_40 : decode cX3_ifHome 40 = .ok (.invokevirtual 208, 3) := by decide +kernel
theorem dX3_ifHome_43 : decode cX3_ifHome 43 = .ok (.goto 4, 3) := by decide +kernel
theorem dX3_ifHome_46 : decode cX3_ifHome 46 = .ok (.iconst (-1), 1) := by decide +kernel
theorem dX3_ifHome_47 : decode cX3_ifHome 47 = .ok (.ireturn, 1) := by decide +kernel
set_option maxRecDepth 20000 in
theorem ggX3_freeHole_X0_isOpen : GoodIn wsX3_freeHole wsX0_isOpen := goodIn_r _ [6, 7, 8, 9, 10, 20, 21, 22, 23, 24, 25, 26, 27, 28, 29] (by decide +kernel) (by decide +kernel)
set_option maxRecDepth 20000 in
theorem gX3_freeHole_X0_isOpen : GoodIn wsX3_freeHole (wsV RX3 211 RX0 yX0_isOpen wsX0_isOpen) := goodIn_app (goodIn_of _ (by decide +kernel)) ggX3_freeHole_X0_isOpen
theorem dX3_freeHole_0 : decode cX3_freeHole 0 = .ok (.iconst 0, 1) := by decide +kernel
theorem dX3_freeHole_1 : decode cX3_freeHole 1 = .ok (.istore_n 1, 1) := by decide +kernel
theorem dX3_freeHole_2 : decode cX3_freeHole 2 = .ok (.iload_n 1, 1) := by decide +kernel
theorem dX3_freeHole_3 : decode cX3_freeHole 3 = .ok (.bipush 24, 2) := by decide +kernel
theorem dX3_freeHole_5 : decode cX3_freeHole 5 = .ok (.if_icmp .ge 37, 3) := by decide +kernel
theorem dX3_freeHole_8 : decode cX3_freeHole 8 = .ok (.aload_n 0, 1) := by decide +kernel
theorem dX3_freeHole_9 : decode cX3_freeHole 9 = .ok (.getfield 10, 3) := by decide +kernel
theorem dX3_freeHole_12 : decode cX3_freeHole 12 = .ok (.iload_n 1, 1) := by decide +kernel
theorem dX3_freeHole_13 : decode cX3_freeHole 13 = .ok (.invokevirtual 211, 3) := by decide +kernel
theorem dX3_freeHole_16 : decode cX3_freeHole 16 = .ok (.ifCond .eq 20, 3) := by decide +kernel
theorem dX3_freeHole_19 : decode cX3_freeHole 19 = .ok (.aload_n 0, 1) := by decide +kernel
theorem dX3_freeHole_20 : decode cX3_freeHole 20 = .ok (.getfield 10, 3) := by decide +kernel
theorem dX3_freeHole_23 : decode cX3_freeHole 23 = .ok (.getfield 179, 3) := by decide +kernel
theorem dX3_freeHole_26 : decode cX3_freeHole 26 = .ok (.iconst 1, 1) := by decide +kernel
theorem dX3_freeHole_27 : decode cX3_freeHole 27 = .ok (.aaload, 1) := by decide +kernel
theorem dX3_freeHole_28 : decode cX3_freeHole 28 = .ok (.iload_n 1, 1) := by decide +kernel
theorem dX3_freeHole_29 : decode cX3_freeHole 29 = .ok (.iaload, 1) := by decide +kernel
theorem dX3_freeHole_30 : decode cX3_freeHole 30 = .ok (.iconst (-1), 1) := by decide +kernel
theorem dX3_freeHole_31 : decode cX3_freeHole 31 = .ok (.if_icmp .ne 5, 3) := by decide +kernel
theorem dX3_freeHole_34 : decode cX3_freeHole 34 = .ok (.iload_n 1, 1) := by decide +kernel
theorem dX3_freeHole_35 : decode cX3_freeHole 35 = .ok (.ireturn, 1) := by decide +kernel
theorem dX3_freeHole_36 : decode cX3_freeHole 36 = .ok (.iinc 1 1, 3) := by decide +kernel
theorem dX3_freeHole_39 : decode cX3_freeHole 39 = .ok (.goto (-37), 3) := by decide +kernel
theorem dX3_freeHole_42 : decode cX3_freeHole 42 = .ok (.iconst (-1), 1) := by decide +kernel
theorem dX3_freeHole_43 : decode cX3_freeHole 43 = .ok (.ireturn, 1) := by decide +kernel
set_option maxRecDepth 20000 in
theorem ggX3_lateIsAsGood_X3_sittingIfAllCame : GoodIn wsX3_lateIsAsGood wsX3_sittingIfAllCame := goodIn_r _ [6, 7, 1, 8, 9, 10, 11, 12, 13, 14, 15, 16, 17, 18, 19, 20, 21, 22, 23, 24, 25, 26, 27, 28, 29, 30, 31, 32, 33, 34, 35, 36, 37, 38, 39, 40, 41, 42, 43, 44, 45, 46, 47, 48, 5, 49, 50, 51, 52, 53, 54, 55, 56, 57, 58, 59, 60, 61, 62, 63, 64, 65, 66, 67, 68, 69, 70, 71, 72, 73, 74, 75, 76, 77, 78, 79, 80, 81, 82, 83, 84, 85, 86, 87, 88, 89, 90, 91, 92, 93, 94, 95, 96, 97, 98, 99, 100, 101, 102, 103, 104, 105, 106, 107, 108, 109, 110, 111, 112] (by decide +kernel) (by decide +kernel)
set_option maxRecDepth 20000 in
theorem gX3_lateIsAsGood_X3_sittingIfAllCame : GoodIn wsX3_lateIsAsGood (wsV RX3 214 RX3 yX3_sittingIfAllCame wsX3_sittingIfAllCame) := goodIn_app (goodIn_of _ (by decide +kernel)) ggX3_lateIsAsGood_X3_sittingIfAllCame
theorem dX3_lateIsAsGood_0 : decode cX3_lateIsAsGood 0 = .ok (.aload_n 0, 1) := by decide +kernel
theorem dX3_lateIsAsGood_1 : decode cX3_lateIsAsGood 1 = .ok (.sipush 1439, 3) := by decide +kernel
theorem dX3_lateIsAsGood_4 : decode cX3_lateIsAsGood 4 = .ok (.invokevirtual 214, 3) := by decide +kernel
theorem dX3_lateIsAsGood_7 : decode cX3_lateIsAsGood 7 = .ok (.aload_n 0, 1) := by decide +kernel
theorem dX3_lateIsAsGood_8 : decode cX3_lateIsAsGood 8 = .ok (.aload_n 0, 1) := by decide +kernel
theorem dX3_lateIsAsGood_9 : decode cX3_lateIsAsGood 9 = .ok (.getfield 10, 3) := by decide +kernel
theorem dX3_lateIsAsGood_12 : decode cX3_lateIsAsGood 12 = .ok (.getfield 217, 3) := by decide +kernel
theorem dX3_lateIsAsGood_15 : decode cX3_lateIsAsGood 15 = .ok (.invokevirtual 214, 3) := by decide +kernel
theorem dX3_lateIsAsGood_18 : decode cX3_lateIsAsGood 18 = .ok (.if_icmp .ge 7, 3) := by decide +kernel
theorem dX3_lateIsAsGood_21 : decode cX3_lateIsAsGood 21 = .ok (.iconst 0, 1) := by decide +kernel
theorem dX3_lateIsAsGood_22 : decode cX3_lateIsAsGood 22 = .ok (.goto 4, 3) := by decide +kernel
theorem dX3_lateIsAsGood_25 : decode cX3_lateIsAsGood 25 = .ok (.iconst 1, 1) := by decide +kernel
theorem dX3_lateIsAsGood_26 : decode cX3_lateIsAsGood 26 = .ok (.ireturn, 1) := by decide +kernel
set_option maxRecDepth 20000 in
theorem ggX3_homeShare_X0_doveCount : GoodIn wsX3_homeShare wsX0_doveCount := goodIn_r _ [6, 7, 8, 9, 5, 10, 11, 25, 26, 27, 28, 29, 30, 31, 32, 33, 34] (by decide +kernel) (by decide +kernel)
set_option maxRecDepth 20000 in
theorem gX3_homeShare_X0_doveCount : GoodIn wsX3_homeShare (wsV RX3 220 RX0 yX0_doveCount wsX0_doveCount) := goodIn_app (goodIn_of _ (by decide +kernel)) ggX3_homeShare_X0_doveCount
set_option maxRecDepth 20000 in
theorem ggX3_homeShare_X0_inOwnHoles : GoodIn wsX3_homeShare wsX0_inOwnHoles := goodIn_r _ [15, 11, 7, 8, 9, 5, 10, 25, 26, 27, 28, 29, 30, 31, 32, 33, 34] (by decide +kernel) (by decide +kernel)
set_option maxRecDepth 20000 in
theorem gX3_homeShare_X0_inOwnHoles : GoodIn wsX3_homeShare (wsV RX3 223 RX0 yX0_inOwnHoles wsX0_inOwnHoles) := goodIn_app (goodIn_of _ (by decide +kernel)) ggX3_homeShare_X0_inOwnHoles
theorem dX3_homeShare_0 : decode cX3_homeShare 0 = .ok (.aload_n 0, 1) := by decide +kernel
theorem dX3_homeShare_1 : decode cX3_homeShare 1 = .ok (.getfield 10, 3) := by decide +kernel
theorem dX3_homeShare_4 : decode cX3_homeShare 4 = .ok (.invokevirtual 220, 3) := by decide +kernel
theorem dX3_homeShare_7 : decode cX3_homeShare 7 = .ok (.istore_n 1, 1) := by decide +kernel
theorem dX3_homeShare_8 : decode cX3_homeShare 8 = .ok (.iload_n 1, 1) := by decide +kernel
theorem dX3_homeShare_9 : decode cX3_homeShare 9 = .ok (.ifCond .ne 5, 3) := by decide +kernel
theorem dX3_homeShare_12 : decode cX3_homeShare 12 = .ok (.dconst 1, 1) := by decide +kernel
theorem dX3_homeShare_13 : decode cX3_homeShare 13 = .ok (.dreturn, 1) := by decide +kernel
theorem dX3_homeShare_14 : decode cX3_homeShare 14 = .ok (.aload_n 0, 1) := by decide +kernel
theorem dX3_homeShare_15 : decode cX3_homeShare 15 = .ok (.getfield 10, 3) := by decide +kernel
theorem dX3_homeShare_18 : decode cX3_homeShare 18 = .ok (.invokevirtual 223, 3) := by decide +kernel
theorem dX3_homeShare_21 : decode cX3_homeShare 21 = .ok (.i2d, 1) := by decide +kernel
theorem dX3_homeShare_22 : decode cX3_homeShare 22 = .ok (.iload_n 1, 1) := by decide +kernel
theorem dX3_homeShare_23 : decode cX3_homeShare 23 = .ok (.i2d, 1) := by decide +kernel
theorem dX3_homeShare_24 : decode cX3_homeShare 24 = .ok (.ddiv, 1) := by decide +kernel
theorem dX3_homeShare_25 : decode cX3_homeShare 25 = .ok (.dreturn, 1) := by decide +kernel
set_option maxRecDepth 20000 in
theorem ggX3_needHole_X3_isHole : GoodIn wsX3_needHole wsX3_isHole := goodIn_r _ [6] (by decide +kernel) (by decide +kernel)
set_option maxRecDepth 20000 in
theorem gX3_needHole_X3_isHole : GoodIn wsX3_needHole (va_wsS RX3 260 yX3_isHole wsX3_isHole) := goodIn_app (goodIn_of _ (by decide +kernel)) ggX3_needHole_X3_isHole
theorem dX3_needHole_0 : decode cX3_needHole 0 = .ok (.iload_n 0, 1) := by decide +kernel
theorem dX3_needHole_1 : decode cX3_needHole 1 = .ok (.invokestatic 260, 3) := by decide +kernel
theorem dX3_needHole_4 : decode cX3_needHole 4 = .ok (.ifCond .ne 14, 3) := by decide +kernel
theorem dX3_needHole_7 : decode cX3_needHole 7 = .ok (.new 105, 3) := by decide +kernel
theorem dX3_needHole_10 : decode cX3_needHole 10 = .ok (.dup, 1) := by decide +kernel
theorem dX3_needHole_11 : decode cX3_needHole 11 = .ok (.ldc_w 263, 3) := by decide +kernel
theorem dX3_needHole_14 : decode cX3_needHole 14 = .ok (.invokespecial 109, 3) := by decide +kernel
theorem dX3_needHole_17 : decode cX3_needHole 17 = .ok (.athrow, 1) := by decide +kernel
theorem dX3_needHole_18 : decode cX3_needHole 18 = .ok (.return_, 1) := by decide +kernel
theorem dX3_needTime_0 : decode cX3_needTime 0 = .ok (.iload_n 0, 1) := by decide +kernel
theorem dX3_needTime_1 : decode cX3_needTime 1 = .ok (.ifCond .lt 10, 3) := by decide +kernel
theorem dX3_needTime_4 : decode cX3_needTime 4 = .ok (.iload_n 0, 1) := by decide +kernel
theorem dX3_needTime_5 : decode cX3_needTime 5 = .ok (.sipush 1439, 3) := by decide +kernel
theorem dX3_needTime_8 : decode cX3_needTime 8 = .ok (.if_icmp .le 14, 3) := by decide +kernel
theorem dX3_needTime_11 : decode cX3_needTime 11 = .ok (.new 52, 3) := by decide +kernel
theorem dX3_needTime_14 : decode cX3_needTime 14 = .ok (.dup, 1) := by decide +kernel
theorem dX3_needTime_15 : decode cX3_needTime 15 = .ok (.ldc_w 265, 3) := by decide +kernel
theorem dX3_needTime_18 : decode cX3_needTime 18 = .ok (.invokespecial 56, 3) := by decide +kernel
theorem dX3_needTime_21 : decode cX3_needTime 21 = .ok (.athrow, 1) := by decide +kernel
theorem dX3_needTime_22 : decode cX3_needTime 22 = .ok (.return_, 1) := by decide +kernel
set_option maxRecDepth 20000 in
theorem ggX3_needDove_X0_exists : GoodIn wsX3_needDove wsX0_exists := goodIn_r _ [8, 9, 19, 20, 21, 22, 23, 24, 25, 26, 27, 28] (by decide +kernel) (by decide +kernel)
set_option maxRecDepth 20000 in
theorem gX3_needDove_X0_exists : GoodIn wsX3_needDove (wsV RX3 235 RX0 yX0_exists wsX0_exists) := goodIn_app (goodIn_of _ (by decide +kernel)) ggX3_needDove_X0_exists
theorem dX3_needDove_0 : decode cX3_needDove 0 = .ok (.aload_n 0, 1) := by decide +kernel
theorem dX3_needDove_1 : decode cX3_needDove 1 = .ok (.getfield 10, 3) := by decide +kernel
theorem dX3_needDove_4 : decode cX3_needDove 4 = .ok (.iload_n 1, 1) := by decide +kernel
theorem dX3_needDove_5 : decode cX3_needDove 5 = .ok (.invokevirtual 235, 3) := by decide +kernel
theorem dX3_needDove_8 : decode cX3_needDove 8 = .ok (.ifCond .ne 14, 3) := by decide +kernel
theorem dX3_needDove_11 : decode cX3_needDove 11 = .ok (.new 105, 3) := by decide +kernel
theorem dX3_needDove_14 : decode cX3_needDove 14 = .ok (.dup, 1) := by decide +kernel
theorem dX3_needDove_15 : decode cX3_needDove 15 = .ok (.ldc_w 267, 3) := by decide +kernel
theorem dX3_needDove_18 : decode cX3_needDove 18 = .ok (.invokespecial 109, 3) := by decide +kernel
theorem dX3_needDove_21 : decode cX3_needDove 21 = .ok (.athrow, 1) := by decide +kernel
theorem dX3_needDove_22 : decode cX3_needDove 22 = .ok (.return_, 1) := by decide +kernel
set_option maxRecDepth 20000 in
theorem ggX3_save_X0_copyFrom : GoodIn wsX3_save wsX0_copyFrom := goodIn_r _ [8, 9, 10, 11, 12, 13, 14, 15, 16, 17, 18, 19, 20, 21, 22, 23, 24, 25, 26, 27, 28, 29, 30, 31, 41, 42, 43, 44, 45, 46, 47, 48, 49, 50, 51, 52, 53] (by decide +kernel) (by decide +kernel)
set_option maxRecDepth 20000 in
theorem gX3_save_X0_copyFrom : GoodIn wsX3_save (wsV RX3 162 RX0 yX0_copyFrom wsX0_copyFrom) := goodIn_app (goodIn_of _ (by decide +kernel)) ggX3_save_X0_copyFrom
theorem dX3_save_0 : decode cX3_save 0 = .ok (.aload_n 0, 1) := by decide +kernel
theorem dX3_save_1 : decode cX3_save 1 = .ok (.getfield 30, 3) := by decide +kernel
theorem dX3_save_4 : decode cX3_save 4 = .ok (.bipush 6, 2) := by decide +kernel
theorem dX3_save_6 : decode cX3_save 6 = .ok (.if_icmp .lt 50, 3) := by decide +kernel
theorem dX3_save_9 : decode cX3_save 9 = .ok (.aload_n 0, 1) := by decide +kernel
theorem dX3_save_10 : decode cX3_save 10 = .ok (.getfield 26, 3) := by decide +kernel
theorem dX3_save_13 : decode cX3_save 13 = .ok (.iconst 0, 1) := by decide +kernel
theorem dX3_save_14 : decode cX3_save 14 = .ok (.aaload, 1) := by decide +kernel
theorem dX3_save_15 : decode cX3_save 15 = .ok (.astore_n 1, 1) := by decide +kernel
theorem dX3_save_16 : decode cX3_save 16 = .ok (.iconst 1, 1) := by decide +kernel
theorem dX3_save_17 : decode cX3_save 17 = .ok (.istore_n 2, 1) := by decide +kernel
theorem dX3_save_18 : decode cX3_save 18 = .ok (.iload_n 2, 1) := by decide +kernel
theorem dX3_save_19 : decode cX3_save 19 = .ok (.bipush 6, 2) := by decide +kernel
theorem dX3_save_21 : decode cX3_save 21 = .ok (.if_icmp .ge 23, 3) := by decide +kernel
theorem dX3_save_24 : decode cX3_save 24 = .ok (.aload_n 0, 1) := by decide +kernel
theorem dX3_save_25 : decode cX3_save 25 = .ok (.getfield 26, 3) := by decide +kernel
theorem dX3_save_28 : decode cX3_save 28 = .ok (.iload_n 2, 1) := by decide +kernel
theorem dX3_save_29 : decode cX3_save 29 = .ok (.iconst 1, 1) := by decide +kernel
theorem dX3_save_30 : decode cX3_save 30 = .ok (.isub, 1) := by decide +kernel
theorem dX3_save_31 : decode cX3_save 31 = .ok (.aload_n 0, 1) := by decide +kernel
theorem dX3_save_32 : decode cX3_save 32 = .ok (.getfield 26, 3) := by decide +kernel
theorem dX3_save_35 : decode cX3_save 35 = .ok (.iload_n 2, 1) := by decide +kernel
theorem dX3_save_36 : decode cX3_save 36 = .ok (.aaload, 1) := by decide +kernel
theorem dX3_save_37 : decode cX3_save 37 = .ok (.aastore, 1) := by decide +kernel
theorem dX3_save_38 : decode cX3_save 38 = .ok (.iinc 2 1, 3) := by decide +kernel
theorem dX3_save_41 : decode cX3_save 41 = .ok (.goto (-23), 3) := by decide +kernel
theorem dX3_save_44 : decode cX3_save 44 = .ok (.aload_n 0, 1) := by decide +kernel
theorem dX3_save_45 : decode cX3_save 45 = .ok (.getfield 26, 3) := by decide +kernel
theorem dX3_save_48 : decode cX3_save 48 = .ok (.iconst 5, 1) := by decide +kernel
theorem dX3_save_49 : decode cX3_save 49 = .ok (.aload_n 1, 1) := by decide +kernel
theorem dX3_save_50 : decode cX3_save 50 = .ok (.aastore, 1) := by decide +kernel
theorem dX3_save_51 : decode cX3_save 51 = .ok (.aload_n 0, 1) := by decide +kernel
theorem dX3_save_52 : decode cX3_save 52 = .ok (.iconst 5, 1) := by decide +kernel
theorem dX3_save_53 : decode cX3_save 53 = .ok (.putfield 30, 3) := by decide +kernel
theorem dX3_save_56 : decode cX3_save 56 = .ok (.aload_n 0, 1) := by decide +kernel
theorem dX3_save_57 : decode cX3_save 57 = .ok (.getfield 26, 3) := by decide +kernel
theorem dX3_save_60 : decode cX3_save 60 = .ok (.aload_n 0, 1) := by decide +kernel
theorem dX3_save_61 : decode cX3_save 61 = .ok (.getfield 30, 3) := by decide +kernel
theorem dX3_save_64 : decode cX3_save 64 = .ok (.aaload, 1) := by decide +kernel
theorem dX3_save_65 : decode cX3_save 65 = .ok (.aload_n 0, 1) := by decide +kernel
theorem dX3_save_66 : decode cX3_save 66 = .ok (.getfield 10, 3) := by decide +kernel
theorem dX3_save_69 : decode cX3_save 69 = .ok (.invokevirtual 162, 3) := by decide +kernel
theorem dX3_save_72 : decode cX3_save 72 = .ok (.aload_n 0, 1) := by decide +kernel
theorem dX3_save_73 : decode cX3_save 73 = .ok (.dup, 1) := by decide +kernel
theorem dX3_save_74 : decode cX3_save 74 = .ok (.getfield 30, 3) := by decide +kernel
theorem dX3_save_77 : decode cX3_save 77 = .ok (.iconst 1, 1) := by decide +kernel
theorem dX3_save_78 : decode cX3_save 78 = .ok (.iadd, 1) := by decide +kernel
theorem dX3_save_79 : decode cX3_save 79 = .ok (.putfield 30, 3) := by decide +kernel
theorem dX3_save_82 : decode cX3_save 82 = .ok (.return_, 1) := by decide +kernel
set_option maxRecDepth 20000 in
theorem ggX3_tryHome_X0_reasonNotHome : GoodIn wsX3_tryHome wsX0_reasonNotHome := goodIn_r _ [7, 8, 9, 87, 88, 89, 90, 91, 92, 93, 94, 95, 96] (by decide +kernel) (by decide +kernel)
set_option maxRecDepth 20000 in
theorem gX3_tryHome_X0_reasonNotHome : GoodIn wsX3_tryHome (wsV RX3 118 RX0 yX0_reasonNotHome wsX0_reasonNotHome) := goodIn_app (goodIn_of _ (by decide +kernel)) ggX3_tryHome_X0_reasonNotHome
set_option maxRecDepth 20000 in
theorem ggX3_tryHome_X0_copyFrom : GoodIn wsX3_tryHome wsX0_copyFrom := goodIn_r _ [13, 8, 14, 15, 16, 17, 18, 19, 20, 21, 22, 23, 9, 24, 25, 26, 27, 28, 29, 30, 31, 32, 33, 34, 87, 88, 89, 90, 91, 92, 93, 94, 95, 96, 97, 98, 99] (by decide +kernel) (by decide +kernel)
set_option maxRecDepth 20000 in
theorem gX3_tryHome_X0_copyFrom : GoodIn wsX3_tryHome (wsV RX3 162 RX0 yX0_copyFrom wsX0_copyFrom) := goodIn_app (goodIn_of _ (by decide +kernel)) ggX3_tryHome_X0_copyFrom
set_option maxRecDepth 20000 in
theorem ggX3_tryHome_X0_comeHome : GoodIn wsX3_tryHome wsX0_comeHome := goodIn_r _ [38, 9, 22, 24, 19, 8, 39, 40, 41, 6, 42, 18, 43, 44, 45, 46, 47, 48, 49, 50, 51, 52, 53, 54, 55, 56, 57, 25, 58, 59, 60, 61, 62, 63, 64, 29, 65, 34, 31, 33, 66, 67, 68, 69, 70, 71, 72, 73, 74, 75, 76, 77, 87, 88, 89, 90, 91, 92, 93, 94, 95, 96, 97, 98, 99] (by decide +kernel) (by decide +kernel)
set_option maxRecDepth 20000 in
theorem gX3_tryHome_X0_comeHome : GoodIn wsX3_tryHome (wsV RX3 123 RX0 yX0_comeHome wsX0_comeHome) := goodIn_app (goodIn_of _ (by decide +kernel)) ggX3_tryHome_X0_comeHome
theorem dX3_tryHome_0 : decode cX3_tryHome 0 = .ok (.aload_n 0, 1) := by decide +kernel
theorem dX3_tryHome_1 : decode cX3_tryHome 1 = .ok (.getfield 10, 3) := by decide +kernel
theorem dX3_tryHome_4 : decode cX3_tryHome 4 = .ok (.iload_n 1, 1) := by decide +kernel
theorem dX3_tryHome_5 : decode cX3_tryHome 5 = .ok (.iload_n 2, 1) := by decide +kernel
theorem dX3_tryHome_6 : decode cX3_tryHome 6 = .ok (.invokevirtual 118, 3) := by decide +kernel
theorem dX3_tryHome_9 : decode cX3_tryHome 9 = .ok (.ifCond .eq 5, 3) := by decide +kernel
theorem dX3_tryHome_12 : decode cX3_tryHome 12 = .ok (.iconst 0, 1) := by decide +kernel
theorem dX3_tryHome_13 : decode cX3_tryHome 13 = .ok (.ireturn, 1) := by decide +kernel
theorem dX3_tryHome_14 : decode cX3_tryHome 14 = .ok (.aload_n 0, 1) := by decide +kernel
theorem dX3_tryHome_15 : decode cX3_tryHome 15 = .ok (.getfield 16, 3) := by decide +kernel
theorem dX3_tryHome_18 : decode cX3_tryHome 18 = .ok (.aload_n 0, 1) := by decide +kernel
theorem dX3_tryHome_19 : decode cX3_tryHome 19 = .ok (.getfield 10, 3) := by decide +kernel
theorem dX3_tryHome_22 : decode cX3_tryHome 22 = .ok (.invokevirtual 162, 3) := by decide +kernel
theorem dX3_tryHome_25 : decode cX3_tryHome 25 = .ok (.aload_n 0, 1) := by decide +kernel
theorem dX3_tryHome_26 : decode cX3_tryHome 26 = .ok (.getfield 16, 3) := by decide +kernel
theorem dX3_tryHome_29 : decode cX3_tryHome 29 = .ok (.iload_n 1, 1) := by decide +kernel
theorem dX3_tryHome_30 : decode cX3_tryHome 30 = .ok (.iload_n 2, 1) := by decide +kernel
theorem dX3_tryHome_31 : decode cX3_tryHome 31 = .ok (.invokevirtual 123, 3) := by decide +kernel
theorem dX3_tryHome_34 : decode cX3_tryHome 34 = .ok (.pop, 1) := by decide +kernel
theorem dX3_tryHome_35 : decode cX3_tryHome 35 = .ok (.iconst 1, 1) := by decide +kernel
theorem dX3_tryHome_36 : decode cX3_tryHome 36 = .ok (.ireturn, 1) := by decide +kernel
set_option maxRecDepth 20000 in
theorem ggX3_trialNumber_X0_placedAt : GoodIn wsX3_trialNumber wsX0_placedAt := goodIn_r _ [7, 8, 9, 10, 11, 6, 12, 22, 23, 24, 25, 26, 27, 28, 29, 30, 31] (by decide +kernel) (by decide +kernel)
set_option maxRecDepth 20000 in
theorem gX3_trialNumber_X0_placedAt : GoodIn wsX3_trialNumber (wsV RX3 293 RX0 yX0_placedAt wsX0_placedAt) := goodIn_app (goodIn_of _ (by decide +kernel)) ggX3_trialNumber_X0_placedAt
theorem dX3_trialNumber_0 : decode cX3_trialNumber 0 = .ok (.iload_n 2, 1) := by decide +kernel
theorem dX3_trialNumber_1 : decode cX3_trialNumber 1 = .ok (.ifCond .ne 15, 3) := by decide +kernel
theorem dX3_trialNumber_4 : decode cX3_trialNumber 4 = .ok (.aload_n 0, 1) := by decide +kernel
theorem dX3_trialNumber_5 : decode cX3_trialNumber 5 = .ok (.getfield 16, 3) := by decide +kernel
theorem dX3_trialNumber_8 : decode cX3_trialNumber 8 = .ok (.getfield 173, 3) := by decide +kernel
theorem dX3_trialNumber_11 : decode cX3_trialNumber 11 = .ok (.iconst 2, 1) := by decide +kernel
theorem dX3_trialNumber_12 : decode cX3_trialNumber 12 = .ok (.aaload, 1) := by decide +kernel
theorem dX3_trialNumber_13 : decode cX3_trialNumber 13 = .ok (.iload_n 1, 1) := by decide +kernel
theorem dX3_trialNumber_14 : decode cX3_trialNumber 14 = .ok (.iaload, 1) := by decide +kernel
theorem dX3_trialNumber_15 : decode cX3_trialNumber 15 = .ok (.ireturn, 1) := by decide +kernel
theorem dX3_trialNumber_16 : decode cX3_trialNumber 16 = .ok (.iload_n 2, 1) := by decide +kernel
theorem dX3_trialNumber_17 : decode cX3_trialNumber 17 = .ok (.iconst 1, 1) := by decide +kernel
theorem dX3_trialNumber_18 : decode cX3_trialNumber 18 = .ok (.if_icmp .ne 19, 3) := by decide +kernel
theorem dX3_trialNumber_21 : decode cX3_trialNumber 21 = .ok (.aload_n 0, 1) := by decide +kernel
theorem dX3_trialNumber_22 : decode cX3_trialNumber 22 = .ok (.getfield 16, 3) := by decide +kernel
theorem dX3_trialNumber_25 : decode cX3_trialNumber 25 = .ok (.getfield 290, 3) := by decide +kernel
theorem dX3_trialNumber_28 : decode cX3_trialNumber 28 = .ok (.aload_n 0, 1) := by decide +kernel
theorem dX3_trialNumber_29 : decode cX3_trialNumber 29 = .ok (.getfield 10, 3) := by decide +kernel
theorem dX3_trialNumber_32 : decode cX3_trialNumber 32 = .ok (.getfield 290, 3) := by decide +kernel
theorem dX3_trialNumber_35 : decode cX3_trialNumber 35 = .ok (.isub, 1) := by decide +kernel
theorem dX3_trialNumber_36 : decode cX3_trialNumber 36 = .ok (.ireturn, 1) := by decide +kernel
theorem dX3_trialNumber_37 : decode cX3_trialNumber 37 = .ok (.aload_n 0, 1) := by decide +kernel
theorem dX3_trialNumber_38 : decode cX3_trialNumber 38 = .ok (.getfield 16, 3) := by decide +kernel
theorem dX3_trialNumber_41 : decode cX3_trialNumber 41 = .ok (.bipush 24, 2) := by decide +kernel
theorem dX3_trialNumber_43 : decode cX3_trialNumber 43 = .ok (.invokevirtual 293, 3) := by decide +kernel
theorem dX3_trialNumber_46 : decode cX3_trialNumber 46 = .ok (.aload_n 0, 1) := by decide +kernel
theorem dX3_trialNumber_47 : decode cX3_trialNumber 47 = .ok (.getfield 10, 3) := by decide +kernel
theorem dX3_trialNumber_50 : decode cX3_trialNumber 50 = .ok (.bipush 24, 2) := by decide +kernel
theorem dX3_trialNumber_52 : decode cX3_trialNumber 52 = .ok (.invokevirtual 293, 3) := by decide +kernel
theorem dX3_trialNumber_55 : decode cX3_trialNumber 55 = .ok (.isub, 1) := by decide +kernel
theorem dX3_trialNumber_56 : decode cX3_trialNumber 56 = .ok (.ireturn, 1) := by decide +kernel
set_option maxRecDepth 20000 in
theorem ggX3_sittingIfAllCame_X0_copyFrom : GoodIn wsX3_sittingIfAllCame wsX0_copyFrom := goodIn_r _ [7, 8, 9, 10, 11, 12, 13, 14, 15, 16, 17, 18, 19, 20, 21, 22, 23, 24, 25, 26, 27, 28, 29, 30, 96, 97, 98, 99, 100, 101, 102, 103, 104, 105, 106, 107, 108] (by decide +kernel) (by decide +kernel)
set_option maxRecDepth 20000 in
theorem gX3_sittingIfAllCame_X0_copyFrom : GoodIn wsX3_sittingIfAllCame (wsV RX3 162 RX0 yX0_copyFrom wsX0_copyFrom) := goodIn_app (goodIn_of _ (by decide +kernel)) ggX3_sittingIfAllCame_X0_copyFrom
set_option maxRecDepth 20000 in
theorem ggX3_sittingIfAllCame_X0_exists : GoodIn wsX3_sittingIfAllCame wsX0_exists := goodIn_r _ [34, 8, 96, 97, 98, 99, 100, 101, 102, 103, 104, 105] (by decide +kernel) (by decide +kernel)
set_option maxRecDepth 20000 in
theorem gX3_sittingIfAllCame_X0_exists : GoodIn wsX3_sittingIfAllCame (wsV RX3 235 RX0 yX0_exists wsX0_exists) := goodIn_app (goodIn_of _ (by decide +kernel)) ggX3_sittingIfAllCame_X0_exists
set_option maxRecDepth 20000 in
theorem ggX3_sittingIfAllCame_X0_comeHome : GoodIn wsX3_sittingIfAllCame wsX0_comeHome := goodIn_r _ [38, 19, 17, 20, 14, 8, 39, 40, 41, 6, 42, 13, 43, 44, 45, 46, 47, 48, 49, 50, 32, 33, 34, 51, 52, 53, 54, 21, 55, 56, 57, 58, 59, 60, 61, 25, 62, 30, 27, 29, 63, 64, 65, 66, 67, 68, 69, 70, 71, 72, 73, 74, 96, 97, 98, 99, 100, 101, 102, 103, 104, 105, 106, 107, 108] (by decide +kernel) (by decide +kernel)
set_option maxRecDepth 20000 in
theorem gX3_sittingIfAllCame_X0_comeHome : GoodIn wsX3_sittingIfAllCame (wsV RX3 123 RX0 yX0_comeHome wsX0_comeHome) := goodIn_app (goodIn_of _ (by decide +kernel)) ggX3_sittingIfAllCame_X0_comeHome
set_option maxRecDepth 20000 in
theorem ggX3_sittingIfAllCame_X0_sittingByDoves : GoodIn wsX3_sittingIfAllCame wsX0_sittingByDoves := goodIn_r _ [78, 79, 80, 81, 6, 82, 50, 32, 33, 34, 8, 83, 84, 85, 86, 96, 97, 98, 99, 100, 101, 102, 103, 104, 105] (by decide +kernel) (by decide +kernel)
set_option maxRecDepth 20000 in
theorem gX3_sittingIfAllCame_X0_sittingByDoves : GoodIn wsX3_sittingIfAllCame (wsV RX3 296 RX0 yX0_sittingByDoves wsX0_sittingByDoves) := goodIn_app (goodIn_of _ (by decide +kernel)) ggX3_sittingIfAllCame_X0_sittingByDoves
theorem dX3_sittingIfAllCame_0 : decode cX3_sittingIfAllCame 0 = .ok (.aload_n 0, 1) := by decide +kernel
theorem dX3_sittingIfAllCame_1 : decode cX3_sittingIfAllCame 1 = .ok (.getfield 16, 3) := by decide +kernel
theorem dX3_sittingIfAllCame_4 : decode cX3_sittingIfAllCame 4 = .ok (.aload_n 0, 1) := by decide +kernel
theorem dX3_sittingIfAllCame_5 : decode cX3_sittingIfAllCame 5 = .ok (.getfield 10, 3) := by decide +kernel
theorem dX3_sittingIfAllCame_8 : decode cX3_sittingIfAllCame 8 = .ok (.invokevirtual 162, 3) := by decide +kernel
theorem dX3_sittingIfAllCame_11 : decode cX3_sittingIfAllCame 11 = .ok (.iconst 0, 1) := by decide +kernel
theorem dX3_sittingIfAllCame_12 : decode cX3_sittingIfAllCame 12 = .ok (.istore_n 2, 1) := by decide +kernel
theorem dX3_sittingIfAllCame_13 : decode cX3_sittingIfAllCame 13 = .ok (.iload_n 2, 1) := by decide +kernel
theorem dX3_sittingIfAllCame_14 : decode cX3_sittingIfAllCame 14 = .ok (.bipush 16, 2) := by decide +kernel
theorem dX3_sittingIfAllCame_16 : decode cX3_sittingIfAllCame 16 = .ok (.if_icmp .ge 45, 3) := by decide +kernel
theorem dX3_sittingIfAllCame_19 : decode cX3_sittingIfAllCame 19 = .ok (.aload_n 0, 1) := by decide +kernel
theorem dX3_sittingIfAllCame_20 : decode cX3_sittingIfAllCame 20 = .ok (.getfield 16, 3) := by decide +kernel
theorem dX3_sittingIfAllCame_23 : decode cX3_sittingIfAllCame 23 = .ok (.iload_n 2, 1) := by decide +kernel
theorem dX3_sittingIfAllCame_24 : decode cX3_sittingIfAllCame 24 = .ok (.invokevirtual 235, 3) := by decide +kernel
theorem dX3_sittingIfAllCame_27 : decode cX3_sittingIfAllCame 27 = .ok (.ifCond .eq 28, 3) := by decide +kernel
theorem dX3_sittingIfAllCame_30 : decode cX3_sittingIfAllCame 30 = .ok (.aload_n 0, 1) := by decide +kernel
theorem dX3_sittingIfAllCame_31 : decode cX3_sittingIfAllCame 31 = .ok (.getfield 16, 3) := by decide +kernel
theorem dX3_sittingIfAllCame_34 : decode cX3_sittingIfAllCame 34 = .ok (.getfield 173, 3) := by decide +kernel
theorem dX3_sittingIfAllCame_37 : decode cX3_sittingIfAllCame 37 = .ok (.iconst 2, 1) := by decide +kernel
theorem dX3_sittingIfAllCame_38 : decode cX3_sittingIfAllCame 38 = .ok (.aaload, 1) := by decide +kernel
theorem dX3_sittingIfAllCame_39 : decode cX3_sittingIfAllCame 39 = .ok (.iload_n 2, 1) := by decide +kernel
theorem dX3_sittingIfAllCame_40 : decode cX3_sittingIfAllCame 40 = .ok (.iaload, 1) := by decide +kernel
theorem dX3_sittingIfAllCame_41 : decode cX3_sittingIfAllCame 41 = .ok (.iconst (-1), 1) := by decide +kernel
theorem dX3_sittingIfAllCame_42 : decode cX3_sittingIfAllCame 42 = .ok (.if_icmp .ne 13, 3) := by decide +kernel
theorem dX3_sittingIfAllCame_45 : decode cX3_sittingIfAllCame 45 = .ok (.aload_n 0, 1) := by decide +kernel
theorem dX3_sittingIfAllCame_46 : decode cX3_sittingIfAllCame 46 = .ok (.getfield 16, 3) := by decide +kernel
theorem dX3_sittingIfAllCame_49 : decode cX3_sittingIfAllCame 49 = .ok (.iload_n 2, 1) := by decide +kernel
theorem dX3_sittingIfAllCame_50 : decode cX3_sittingIfAllCame 50 = .ok (.iload_n 1, 1) := by decide +kernel
theorem dX3_sittingIfAllCame_51 : decode cX3_sittingIfAllCame 51 = .ok (.invokevirtual 123, 3) := by decide +kernel
theorem dX3_sittingIfAllCame_54 : decode cX3_sittingIfAllCame 54 = .ok (.pop, 1) := by decide +kernel
theorem dX3_sittingIfAllCame_55 : decode cX3_sittingIfAllCame 55 = .ok (.iinc 2 1, 3) := by decide +kernel
theorem dX3_sittingIfAllCame_58 : decode cX3_sittingIfAllCame 58 = .ok (.goto (-45), 3) := by decide +kernel
theorem dX3_sittingIfAllCame_61 : decode cX3_sittingIfAllCame 61 = .ok (.aload_n 0, 1) := by decide +kernel
theorem dX3_sittingIfAllCame_62 : decode cX3_sittingIfAllCame 62 = .ok (.getfield 16, 3) := by decide +kernel
theorem dX3_sittingIfAllCame_65 : decode cX3_sittingIfAllCame 65 = .ok (.invokevirtual 296, 3) := by decide +kernel
theorem dX3_sittingIfAllCame_68 : decode cX3_sittingIfAllCame 68 = .ok (.ireturn, 1) := by decide +kernel
