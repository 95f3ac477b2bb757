
theorem dX1_init_0 : decode cX1_init 0 = .ok (.aload_n 0, 1) := by decide +kernel
theorem dX1_init_1 : decode cX1_init 1 = .ok (.invokespecial 3, 3) := by decide +kernel
theorem dX1_init_4 : decode cX1_init 4 = .ok (.aload_n 0, 1) := by decide +kernel
theorem dX1_init_5 : decode cX1_init 5 = .ok (.iconst 0, 1) := by decide +kernel
theorem dX1_init_6 : decode cX1_init 6 = .ok (.putfield 11, 3) := by decide +kernel
theorem dX1_init_9 : decode cX1_init 9 = .ok (.aload_n 0, 1) := by decide +kernel
theorem dX1_init_10 : decode cX1_init 10 = .ok (.iconst 0, 1) := by decide +kernel
theorem dX1_init_11 : decode cX1_init 11 = .ok (.putfield 15, 3) := by decide +kernel
theorem dX1_init_14 : decode cX1_init 14 = .ok (.aload_n 0, 1) := by decide +kernel
theorem dX1_init_15 : decode cX1_init 15 = .ok (.iconst (-1), 1) := by decide +kernel
theorem dX1_init_16 : decode cX1_init 16 = .ok (.putfield 18, 3) := by decide +kernel
theorem dX1_init_19 : decode cX1_init 19 = .ok (.aload_n 0, 1) := by decide +kernel
theorem dX1_init_20 : decode cX1_init 20 = .ok (.iconst (-1), 1) := by decide +kernel
theorem dX1_init_21 : decode cX1_init 21 = .ok (.putfield 21, 3) := by decide +kernel
theorem dX1_init_24 : decode cX1_init 24 = .ok (.return_, 1) := by decide +kernel
theorem dX1_begin_0 : decode cX1_begin 0 = .ok (.aload_n 0, 1) := by decide +kernel
theorem dX1_begin_1 : decode cX1_begin 1 = .ok (.iconst 0, 1) := by decide +kernel
theorem dX1_begin_2 : decode cX1_begin 2 = .ok (.putfield 11, 3) := by decide +kernel
theorem dX1_begin_5 : decode cX1_begin 5 = .ok (.aload_n 0, 1) := by decide +kernel
theorem dX1_begin_6 : decode cX1_begin 6 = .ok (.iconst 0, 1) := by decide +kernel
theorem dX1_begin_7 : decode cX1_begin 7 = .ok (.putfield 15, 3) := by decide +kernel
theorem dX1_begin_10 : decode cX1_begin 10 = .ok (.aload_n 0, 1) := by decide +kernel
theorem dX1_begin_11 : decode cX1_begin 11 = .ok (.iconst (-1), 1) := by decide +kernel
theorem dX1_begin_12 : decode cX1_begin 12 = .ok (.putfield 18, 3) := by decide +kernel
theorem dX1_begin_15 : decode cX1_begin 15 = .ok (.aload_n 0, 1) := by decide +kernel
theorem dX1_begin_16 : decode cX1_begin 16 = .ok (.iconst (-1), 1) := by decide +kernel
theorem dX1_begin_17 : decode cX1_begin 17 = .ok (.putfield 21, 3) := by decide +kernel
theorem dX1_begin_20 : decode cX1_begin 20 = .ok (.return_, 1) := by decide +kernel
set_option maxRecDepth 20000 in
theorem ggX1_take_X1_takeLetter : GoodIn wsX1_take wsX1_takeLetter := goodIn_r _ [6, 1, 7, 49, 50, 51, 52] (by decide +kernel) (by decide +kernel)
set_option maxRecDepth 20000 in
theorem gX1_take_X1_takeLetter : GoodIn wsX1_take (wsV RX1 24 RX1 yX1_takeLetter wsX1_takeLetter) := goodIn_app (goodIn_of _ (by decide +kernel)) ggX1_take_X1_takeLetter
set_option maxRecDepth 20000 in
theorem ggX1_take_X1_takeEnd : GoodIn wsX1_take wsX1_takeEnd := goodIn_r _ [11, 12, 13, 14, 5, 15, 1, 16, 17, 18, 19, 20, 21, 7, 22, 23, 24, 25, 49, 50, 51, 52] (by decide +kernel) (by decide +kernel)
set_option maxRecDepth 20000 in
theorem gX1_take_X1_takeEnd : GoodIn wsX1_take (wsV RX1 28 RX1 yX1_takeEnd wsX1_takeEnd) := goodIn_app (goodIn_of _ (by decide +kernel)) ggX1_take_X1_takeEnd
set_option maxRecDepth 20000 in
theorem ggX1_take_X1_takeDigit : GoodIn wsX1_take wsX1_takeDigit := goodIn_r _ [29, 1, 16, 17, 30, 31, 5, 32, 33, 34, 35, 36, 7, 37, 38, 39, 40, 41, 42, 43, 44, 49, 50, 51, 52] (by decide +kernel) (by decide +kernel)
set_option maxRecDepth 20000 in
theorem gX1_take_X1_takeDigit : GoodIn wsX1_take (wsV RX1 32 RX1 yX1_takeDigit wsX1_takeDigit) := goodIn_app (goodIn_of _ (by decide +kernel)) ggX1_take_X1_takeDigit
set_option maxRecDepth 20000 in
theorem ggX1_take_X1_takeSign : GoodIn wsX1_take wsX1_takeSign := goodIn_r _ [48, 1, 16, 18, 19, 20, 5, 21, 7, 49, 50, 51, 52] (by decide +kernel) (by decide +kernel)
set_option maxRecDepth 20000 in
theorem gX1_take_X1_takeSign : GoodIn wsX1_take (wsV RX1 35 RX1 yX1_takeSign wsX1_takeSign) := goodIn_app (goodIn_of _ (by decide +kernel)) ggX1_take_X1_takeSign
theorem dX1_take_0 : decode cX1_take 0 = .ok (.aload_n 0, 1) := by decide +kernel
theorem dX1_take_1 : decode cX1_take 1 = .ok (.getfield 11, 3) := by decide +kernel
theorem dX1_take_4 : decode cX1_take 4 = .ok (.ifCond .ne 9, 3) := by decide +kernel
theorem dX1_take_7 : decode cX1_take 7 = .ok (.aload_n 0, 1) := by decide +kernel
theorem dX1_take_8 : decode cX1_take 8 = .ok (.iload_n 1, 1) := by decide +kernel
theorem dX1_take_9 : decode cX1_take 9 = .ok (.invokevirtual 24, 3) := by decide +kernel
theorem dX1_take_12 : decode cX1_take 12 = .ok (.ireturn, 1) := by decide +kernel
theorem dX1_take_13 : decode cX1_take 13 = .ok (.iload_n 1, 1) := by decide +kernel
theorem dX1_take_14 : decode cX1_take 14 = .ok (.bipush 59, 2) := by decide +kernel
theorem dX1_take_16 : decode cX1_take 16 = .ok (.if_icmp .ne 8, 3) := by decide +kernel
theorem dX1_take_19 : decode cX1_take 19 = .ok (.aload_n 0, 1) := by decide +kernel
theorem dX1_take_20 : decode cX1_take 20 = .ok (.invokevirtual 28, 3) := by decide +kernel
theorem dX1_take_23 : decode cX1_take 23 = .ok (.ireturn, 1) := by decide +kernel
theorem dX1_take_24 : decode cX1_take 24 = .ok (.iload_n 1, 1) := by decide +kernel
theorem dX1_take_25 : decode cX1_take 25 = .ok (.bipush 48, 2) := by decide +kernel
theorem dX1_take_27 : decode cX1_take 27 = .ok (.if_icmp .lt 18, 3) := by decide +kernel
theorem dX1_take_30 : decode cX1_take 30 = .ok (.iload_n 1, 1) := by decide +kernel
theorem dX1_take_31 : decode cX1_take 31 = .ok (.bipush 57, 2) := by decide +kernel
theorem dX1_take_33 : decode cX1_take 33 = .ok (.if_icmp .gt 12, 3) := by decide +kernel
theorem dX1_take_36 : decode cX1_take 36 = .ok (.aload_n 0, 1) := by decide +kernel
theorem dX1_take_37 : decode cX1_take 37 = .ok (.iload_n 1, 1) := by decide +kernel
theorem dX1_take_38 : decode cX1_take 38 = .ok (.bipush 48, 2) := by decide +kernel
theorem dX1_take_40 : decode cX1_take 40 = .ok (.isub, 1) := by decide +kernel
theorem dX1_take_41 : decode cX1_take 41 = .ok (.invokevirtual 32, 3) := by decide +kernel
theorem dX1_take_44 : decode cX1_take 44 = .ok (.ireturn, 1) := by decide +kernel
theorem dX1_take_45 : decode cX1_take 45 = .ok (.aload_n 0, 1) := by decide +kernel
theorem dX1_take_46 : decode cX1_take 46 = .ok (.iload_n 1, 1) := by decide +kernel
theorem dX1_take_47 : decode cX1_take 47 = .ok (.invokevirtual 35, 3) := by decide +kernel
theorem dX1_take_50 : decode cX1_take 50 = .ok (.ireturn, 1) := by decide +kernel
set_option maxRecDepth 20000 in
theorem ggX1_isComplete_X1_signBehindFirst : GoodIn wsX1_isComplete wsX1_signBehindFirst := goodIn_r _ [8, 9, 10, 11, 12, 13] (by decide +kernel) (by decide +kernel)
set_option maxRecDepth 20000 in
theorem gX1_isComplete_X1_signBehindFirst : GoodIn wsX1_isComplete (wsV RX1 38 RX1 yX1_signBehindFirst wsX1_signBehindFirst) := goodIn_app (goodIn_of _ (by decide +kernel)) ggX1_isComplete_X1_signBehindFirst
theorem dX1_isComplete_0 : decode cX1_isComplete 0 = .ok (.aload_n 0, 1) := by decide +kernel
theorem dX1_isComplete_1 : decode cX1_isComplete 1 = .ok (.getfield 11, 3) := by decide +kernel
theorem dX1_isComplete_4 : decode cX1_isComplete 4 = .ok (.iconst 1, 1) := by decide +kernel
theorem dX1_isComplete_5 : decode cX1_isComplete 5 = .ok (.if_icmp .ne 25, 3) := by decide +kernel
theorem dX1_isComplete_8 : decode cX1_isComplete 8 = .ok (.aload_n 0, 1) := by decide +kernel
theorem dX1_isComplete_9 : decode cX1_isComplete 9 = .ok (.getfield 18, 3) := by decide +kernel
theorem dX1_isComplete_12 : decode cX1_isComplete 12 = .ok (.iconst (-1), 1) := by decide +kernel
theorem dX1_isComplete_13 : decode cX1_isComplete 13 = .ok (.if_icmp .eq 15, 3) := by decide +kernel
theorem dX1_isComplete_16 : decode cX1_isComplete 16 = .ok (.aload_n 0, 1) := by decide +kernel
theorem dX1_isComplete_17 : decode cX1_isComplete 17 = .ok (.invokevirtual 38, 3) := by decide +kernel
theorem dX1_isComplete_20 : decode cX1_isComplete 20 = .ok (.iconst (-1), 1) := by decide +kernel
theorem dX1_isComplete_21 : decode cX1_isComplete 21 = .ok (.if_icmp .ne 7, 3) := by decide +kernel
theorem dX1_isComplete_24 : decode cX1_isComplete 24 = .ok (.iconst 1, 1) := by decide +kernel
theorem dX1_isComplete_25 : decode cX1_isComplete 25 = .ok (.goto 4, 3) := by decide +kernel
theorem dX1_isComplete_28 : decode cX1_isComplete 28 = .ok (.iconst 0, 1) := by decide +kernel
theorem dX1_isComplete_29 : decode cX1_isComplete 29 = .ok (.ireturn, 1) := by decide +kernel
theorem dX1_isComplete_30 : decode cX1_isComplete 30 = .ok (.aload_n 0, 1) := by decide +kernel
theorem dX1_isComplete_31 : decode cX1_isComplete 31 = .ok (.getfield 11, 3) := by decide +kernel
theorem dX1_isComplete_34 : decode cX1_isComplete 34 = .ok (.iconst 3, 1) := by decide +kernel
theorem dX1_isComplete_35 : decode cX1_isComplete 35 = .ok (.if_icmp .eq 19, 3) := by decide +kernel
theorem dX1_isComplete_38 : decode cX1_isComplete 38 = .ok (.aload_n 0, 1) := by decide +kernel
theorem dX1_isComplete_39 : decode cX1_isComplete 39 = .ok (.getfield 11, 3) := by decide +kernel
theorem dX1_isComplete_42 : decode cX1_isComplete 42 = .ok (.iconst 2, 1) := by decide +kernel
theorem dX1_isComplete_43 : decode cX1_isComplete 43 = .ok (.if_icmp .ne 15, 3) := by decide +kernel
theorem dX1_isComplete_46 : decode cX1_isComplete 46 = .ok (.aload_n 0, 1) := by decide +kernel
theorem dX1_isComplete_47 : decode cX1_isComplete 47 = .ok (.getfield 21, 3) := by decide +kernel
theorem dX1_isComplete_50 : decode cX1_isComplete 50 = .ok (.iconst (-1), 1) := by decide +kernel
theorem dX1_isComplete_51 : decode cX1_isComplete 51 = .ok (.if_icmp .eq 7, 3) := by decide +kernel
theorem dX1_isComplete_54 : decode cX1_isComplete 54 = .ok (.iconst 1, 1) := by decide +kernel
theorem dX1_isComplete_55 : decode cX1_isComplete 55 = .ok (.goto 4, 3) := by decide +kernel
theorem dX1_isComplete_58 : decode cX1_isComplete 58 = .ok (.iconst 0, 1) := by decide +kernel
theorem dX1_isComplete_59 : decode cX1_isComplete 59 = .ok (.ireturn, 1) := by decide +kernel
theorem dX1_takeLetter_0 : decode cX1_takeLetter 0 = .ok (.iload_n 1, 1) := by decide +kernel
theorem dX1_takeLetter_1 : decode cX1_takeLetter 1 = .ok (.lookupswitch 75 #[(94, 67), (98, 59), (104, 59), (109, 59), (111, 59), (120, 59)], 59) := by decide +kernel
theorem dX1_takeLetter_60 : decode cX1_takeLetter 60 = .ok (.aload_n 0, 1) := by decide +kernel
theorem dX1_takeLetter_61 : decode cX1_takeLetter 61 = .ok (.iconst 1, 1) := by decide +kernel
theorem dX1_takeLetter_62 : decode cX1_takeLetter 62 = .ok (.putfield 11, 3) := by decide +kernel
theorem dX1_takeLetter_65 : decode cX1_takeLetter 65 = .ok (.goto 13, 3) := by decide +kernel
theorem dX1_takeLetter_68 : decode cX1_takeLetter 68 = .ok (.aload_n 0, 1) := by decide +kernel
theorem dX1_takeLetter_69 : decode cX1_takeLetter 69 = .ok (.iconst 3, 1) := by decide +kernel
theorem dX1_takeLetter_70 : decode cX1_takeLetter 70 = .ok (.putfield 11, 3) := by decide +kernel
theorem dX1_takeLetter_73 : decode cX1_takeLetter 73 = .ok (.goto 5, 3) := by decide +kernel
theorem dX1_takeLetter_76 : decode cX1_takeLetter 76 = .ok (.iconst 0, 1) := by decide +kernel
theorem dX1_takeLetter_77 : decode cX1_takeLetter 77 = .ok (.ireturn, 1) := by decide +kernel
theorem dX1_takeLetter_78 : decode cX1_takeLetter 78 = .ok (.aload_n 0, 1) := by decide +kernel
theorem dX1_takeLetter_79 : decode cX1_takeLetter 79 = .ok (.iload_n 1, 1) := by decide +kernel
theorem dX1_takeLetter_80 : decode cX1_takeLetter 80 = .ok (.putfield 15, 3) := by decide +kernel
theorem dX1_takeLetter_83 : decode cX1_takeLetter 83 = .ok (.iconst 1, 1) := by decide +kernel
theorem dX1_takeLetter_84 : decode cX1_takeLetter 84 = .ok (.ireturn, 1) := by decide +kernel
set_option maxRecDepth 20000 in
theorem ggX1_takeEnd_X1_isComplete : GoodIn wsX1_takeEnd wsX1_isComplete := goodIn_r _ [5, 6, 7, 8, 9, 10, 11, 4, 12, 13, 18, 19, 20, 21] (by decide +kernel) (by decide +kernel)
set_option maxRecDepth 20000 in
theorem gX1_takeEnd_X1_isComplete : GoodIn wsX1_takeEnd (wsV RX1 42 RX1 yX1_isComplete wsX1_isComplete) := goodIn_app (goodIn_of _ (by decide +kernel)) ggX1_takeEnd_X1_isComplete
set_option maxRecDepth 20000 in
theorem ggX1_takeEnd_X1_begin : GoodIn wsX1_takeEnd wsX1_begin := goodIn_r _ [17, 6, 13, 7, 8, 18, 19, 20, 21] (by decide +kernel) (by decide +kernel)
set_option maxRecDepth 20000 in
theorem gX1_takeEnd_X1_begin : GoodIn wsX1_takeEnd (wsV RX1 45 RX1 yX1_begin wsX1_begin) := goodIn_app (goodIn_of _ (by decide +kernel)) ggX1_takeEnd_X1_begin
theorem dX1_takeEnd_0 : decode cX1_takeEnd 0 = .ok (.aload_n 0, 1) := by decide +kernel
theorem dX1_takeEnd_1 : decode cX1_takeEnd 1 = .ok (.invokevirtual 42, 3) := by decide +kernel
theorem dX1_takeEnd_4 : decode cX1_takeEnd 4 = .ok (.ifCond .ne 5, 3) := by decide +kernel
theorem dX1_takeEnd_7 : decode cX1_takeEnd 7 = .ok (.iconst 0, 1) := by decide +kernel
theorem dX1_takeEnd_8 : decode cX1_takeEnd 8 = .ok (.ireturn, 1) := by decide +kernel
theorem dX1_takeEnd_9 : decode cX1_takeEnd 9 = .ok (.aload_n 0, 1) := by decide +kernel
theorem dX1_takeEnd_10 : decode cX1_takeEnd 10 = .ok (.invokevirtual 45, 3) := by decide +kernel
theorem dX1_takeEnd_13 : decode cX1_takeEnd 13 = .ok (.iconst 1, 1) := by decide +kernel
theorem dX1_takeEnd_14 : decode cX1_takeEnd 14 = .ok (.ireturn, 1) := by decide +kernel
set_option maxRecDepth 20000 in
theorem ggX1_takeSign_X1_signBehindFirst : GoodIn wsX1_takeSign wsX1_signBehindFirst := goodIn_r _ [7, 8, 9, 10, 11, 12] (by decide +kernel) (by decide +kernel)
set_option maxRecDepth 20000 in
theorem gX1_takeSign_X1_signBehindFirst : GoodIn wsX1_takeSign (wsV RX1 38 RX1 yX1_signBehindFirst wsX1_signBehindFirst) := goodIn_app (goodIn_of _ (by decide +kernel)) ggX1_takeSign_X1_signBehindFirst
theorem dX1_takeSign_0 : decode cX1_takeSign 0 = .ok (.aload_n 0, 1) := by decide +kernel
theorem dX1_takeSign_1 : decode cX1_takeSign 1 = .ok (.getfield 11, 3) := by decide +kernel
theorem dX1_takeSign_4 : decode cX1_takeSign 4 = .ok (.iconst 1, 1) := by decide +kernel
theorem dX1_takeSign_5 : decode cX1_takeSign 5 = .ok (.if_icmp .ne 19, 3) := by decide +kernel
theorem dX1_takeSign_8 : decode cX1_takeSign 8 = .ok (.aload_n 0, 1) := by decide +kernel
theorem dX1_takeSign_9 : decode cX1_takeSign 9 = .ok (.getfield 18, 3) := by decide +kernel
theorem dX1_takeSign_12 : decode cX1_takeSign 12 = .ok (.iconst (-1), 1) := by decide +kernel
theorem dX1_takeSign_13 : decode cX1_takeSign 13 = .ok (.if_icmp .eq 11, 3) := by decide +kernel
theorem dX1_takeSign_16 : decode cX1_takeSign 16 = .ok (.iload_n 1, 1) := by decide +kernel
theorem dX1_takeSign_17 : decode cX1_takeSign 17 = .ok (.aload_n 0, 1) := by decide +kernel
theorem dX1_takeSign_18 : decode cX1_takeSign 18 = .ok (.invokevirtual 38, 3) := by decide +kernel
theorem dX1_takeSign_21 : decode cX1_takeSign 21 = .ok (.if_icmp .eq 5, 3) := by decide +kernel
theorem dX1_takeSign_24 : decode cX1_takeSign 24 = .ok (.iconst 0, 1) := by decide +kernel
theorem dX1_takeSign_25 : decode cX1_takeSign 25 = .ok (.ireturn, 1) := by decide +kernel
theorem dX1_takeSign_26 : decode cX1_takeSign 26 = .ok (.aload_n 0, 1) := by decide +kernel
theorem dX1_takeSign_27 : decode cX1_takeSign 27 = .ok (.iconst 2, 1) := by decide +kernel
theorem dX1_takeSign_28 : decode cX1_takeSign 28 = .ok (.putfield 11, 3) := by decide +kernel
theorem dX1_takeSign_31 : decode cX1_takeSign 31 = .ok (.iconst 1, 1) := by decide +kernel
theorem dX1_takeSign_32 : decode cX1_takeSign 32 = .ok (.ireturn, 1) := by decide +kernel
set_option maxRecDepth 20000 in
theorem ggX1_takeDigit_X1_grown : GoodIn wsX1_takeDigit wsX1_grown := goodIn_r _ [7] (by decide +kernel) (by decide +kernel)
set_option maxRecDepth 20000 in
theorem gX1_takeDigit_X1_grown : GoodIn wsX1_takeDigit (va_wsS RX1 48 yX1_grown wsX1_grown) := goodIn_app (goodIn_of _ (by decide +kernel)) ggX1_takeDigit_X1_grown
set_option maxRecDepth 20000 in
theorem ggX1_takeDigit_X1_highestFirst : GoodIn wsX1_takeDigit wsX1_highestFirst := goodIn_r _ [11, 12, 21, 22, 23, 24] (by decide +kernel) (by decide +kernel)
set_option maxRecDepth 20000 in
theorem gX1_takeDigit_X1_highestFirst : GoodIn wsX1_takeDigit (wsV RX1 52 RX1 yX1_highestFirst wsX1_highestFirst) := goodIn_app (goodIn_of _ (by decide +kernel)) ggX1_takeDigit_X1_highestFirst
set_option maxRecDepth 20000 in
theorem ggX1_takeDigit_X1_lowestSecond : GoodIn wsX1_takeDigit wsX1_lowestSecond := goodIn_r _ [16, 12, 21, 22, 23, 24] (by decide +kernel) (by decide +kernel)
set_option maxRecDepth 20000 in
theorem gX1_takeDigit_X1_lowestSecond : GoodIn wsX1_takeDigit (wsV RX1 55 RX1 yX1_lowestSecond wsX1_lowestSecond) := goodIn_app (goodIn_of _ (by decide +kernel)) ggX1_takeDigit_X1_lowestSecond
set_option maxRecDepth 20000 in
theorem ggX1_takeDigit_X1_highestSecond : GoodIn wsX1_takeDigit wsX1_highestSecond := goodIn_r _ [20, 12, 21, 22, 23, 24] (by decide +kernel) (by decide +kernel)
set_option maxRecDepth 20000 in
theorem gX1_takeDigit_X1_highestSecond : GoodIn wsX1_takeDigit (wsV RX1 58 RX1 yX1_highestSecond wsX1_highestSecond) := goodIn_app (goodIn_of _ (by decide +kernel)) ggX1_takeDigit_X1_highestSecond
theorem dX1_takeDigit_0 : decode cX1_takeDigit 0 = .ok (.aload_n 0, 1) := by decide +kernel
theorem dX1_takeDigit_1 : decode cX1_takeDigit 1 = .ok (.getfield 11, 3) := by decide +kernel
theorem dX1_takeDigit_4 : decode cX1_takeDigit 4 = .ok (.iconst 1, 1) := by decide +kernel
theorem dX1_takeDigit_5 : decode cX1_takeDigit 5 = .ok (.if_icmp .ne 34, 3) := by decide +kernel
theorem dX1_takeDigit_8 : decode cX1_takeDigit 8 = .ok (.aload_n 0, 1) := by decide +kernel
theorem dX1_takeDigit_9 : decode cX1_takeDigit 9 = .ok (.getfield 18, 3) := by decide +kernel
theorem dX1_takeDigit_12 : decode cX1_takeDigit 12 = .ok (.iload_n 1, 1) := by decide +kernel
theorem dX1_takeDigit_13 : decode cX1_takeDigit 13 = .ok (.invokestatic 48, 3) := by decide +kernel
theorem dX1_takeDigit_16 : decode cX1_takeDigit 16 = .ok (.istore_n 2, 1) := by decide +kernel
theorem dX1_takeDigit_17 : decode cX1_takeDigit 17 = .ok (.iload_n 2, 1) := by decide +kernel
theorem dX1_takeDigit_18 : decode cX1_takeDigit 18 = .ok (.iconst (-1), 1) := by decide +kernel
theorem dX1_takeDigit_19 : decode cX1_takeDigit 19 = .ok (.if_icmp .eq 11, 3) := by decide +kernel
theorem dX1_takeDigit_22 : decode cX1_takeDigit 22 = .ok (.iload_n 2, 1) := by decide +kernel
theorem dX1_takeDigit_23 : decode cX1_takeDigit 23 = .ok (.aload_n 0, 1) := by decide +kernel
theorem dX1_takeDigit_24 : decode cX1_takeDigit 24 = .ok (.invokevirtual 52, 3) := by decide +kernel
theorem dX1_takeDigit_27 : decode cX1_takeDigit 27 = .ok (.if_icmp .le 5, 3) := by decide +kernel
theorem dX1_takeDigit_30 : decode cX1_takeDigit 30 = .ok (.iconst 0, 1) := by decide +kernel
theorem dX1_takeDigit_31 : decode cX1_takeDigit 31 = .ok (.ireturn, 1) := by decide +kernel
theorem dX1_takeDigit_32 : decode cX1_takeDigit 32 = .ok (.aload_n 0, 1) := by decide +kernel
theorem dX1_takeDigit_33 : decode cX1_takeDigit 33 = .ok (.iload_n 2, 1) := by decide +kernel
theorem dX1_takeDigit_34 : decode cX1_takeDigit 34 = .ok (.putfield 18, 3) := by decide +kernel
theorem dX1_takeDigit_37 : decode cX1_takeDigit 37 = .ok (.iconst 1, 1) := by decide +kernel
theorem dX1_takeDigit_38 : decode cX1_takeDigit 38 = .ok (.ireturn, 1) := by decide +kernel
theorem dX1_takeDigit_39 : decode cX1_takeDigit 39 = .ok (.aload_n 0, 1) := by decide +kernel
theorem dX1_takeDigit_40 : decode cX1_takeDigit 40 = .ok (.getfield 11, 3) := by decide +kernel
theorem dX1_takeDigit_43 : decode cX1_takeDigit 43 = .ok (.iconst 2, 1) := by decide +kernel
theorem dX1_takeDigit_44 : decode cX1_takeDigit 44 = .ok (.if_icmp .ne 37, 3) := by decide +kernel
theorem dX1_takeDigit_47 : decode cX1_takeDigit 47 = .ok (.aload_n 0, 1) := by decide +kernel
theorem dX1_takeDigit_48 : decode cX1_takeDigit 48 = .ok (.getfield 21, 3) := by decide +kernel
theorem dX1_takeDigit_51 : decode cX1_takeDigit 51 = .ok (.iload_n 1, 1) := by decide +kernel
theorem dX1_takeDigit_52 : decode cX1_takeDigit 52 = .ok (.invokestatic 48, 3) := by decide +kernel
theorem dX1_takeDigit_55 : decode cX1_takeDigit 55 = .ok (.istore_n 2, 1) := by decide +kernel
theorem dX1_takeDigit_56 : decode cX1_takeDigit 56 = .ok (.iload_n 2, 1) := by decide +kernel
theorem dX1_takeDigit_57 : decode cX1_takeDigit 57 = .ok (.aload_n 0, 1) := by decide +kernel
theorem dX1_takeDigit_58 : decode cX1_takeDigit 58 = .ok (.invokevirtual 55, 3) := by decide +kernel
theorem dX1_takeDigit_61 : decode cX1_takeDigit 61 = .ok (.if_icmp .lt 11, 3) := by decide +kernel
theorem dX1_takeDigit_64 : decode cX1_takeDigit 64 = .ok (.iload_n 2, 1) := by decide +kernel
theorem dX1_takeDigit_65 : decode cX1_takeDigit 65 = .ok (.aload_n 0, 1) := by decide +kernel
theorem dX1_takeDigit_66 : decode cX1_takeDigit 66 = .ok (.invokevirtual 58, 3) := by decide +kernel
theorem dX1_takeDigit_69 : decode cX1_takeDigit 69 = .ok (.if_icmp .le 5, 3) := by decide +kernel
theorem dX1_takeDigit_72 : decode cX1_takeDigit 72 = .ok (.iconst 0, 1) := by decide +kernel
theorem dX1_takeDigit_73 : decode cX1_takeDigit 73 = .ok (.ireturn, 1) := by decide +kernel
theorem dX1_takeDigit_74 : decode cX1_takeDigit 74 = .ok (.aload_n 0, 1) := by decide +kernel
theorem dX1_takeDigit_75 : decode cX1_takeDigit 75 = .ok (.iload_n 2, 1) := by decide +kernel
theorem dX1_takeDigit_76 : decode cX1_takeDigit 76 = .ok (.putfield 21, 3) := by decide +kernel
theorem dX1_takeDigit_79 : decode cX1_takeDigit 79 = .ok (.iconst 1, 1) := by decide +kernel
theorem dX1_takeDigit_80 : decode cX1_takeDigit 80 = .ok (.ireturn, 1) := by decide +kernel
theorem dX1_takeDigit_81 : decode cX1_takeDigit 81 = .ok (.iconst 0, 1) := by decide +kernel
theorem dX1_takeDigit_82 : decode cX1_takeDigit 82 = .ok (.ireturn, 1) := by decide +kernel
theorem dX1_grown_0 : decode cX1_grown 0 = .ok (.iload_n 0, 1) := by decide +kernel
theorem dX1_grown_1 : decode cX1_grown 1 = .ok (.iconst (-1), 1) := by decide +kernel
theorem dX1_grown_2 : decode cX1_grown 2 = .ok (.if_icmp .ne 5, 3) := by decide +kernel
theorem dX1_grown_5 : decode cX1_grown 5 = .ok (.iload_n 1, 1) := by decide +kernel
theorem dX1_grown_6 : decode cX1_grown 6 = .ok (.ireturn, 1) := by decide +kernel
theorem dX1_grown_7 : decode cX1_grown 7 = .ok (.iload_n 0, 1) := by decide +kernel
theorem dX1_grown_8 : decode cX1_grown 8 = .ok (.ifCond .ne 7, 3) := by decide +kernel
theorem dX1_grown_11 : decode cX1_grown 11 = .ok (.iconst (-1), 1) := by decide +kernel
theorem dX1_grown_12 : decode cX1_grown 12 = .ok (.goto 9, 3) := by decide +kernel
theorem dX1_grown_15 : decode cX1_grown 15 = .ok (.iload_n 0, 1) := by decide +kernel
theorem dX1_grown_16 : decode cX1_grown 16 = .ok (.bipush 10, 2) := by decide +kernel
theorem dX1_grown_18 : decode cX1_grown 18 = .ok (.imul, 1) := by decide +kernel
theorem dX1_grown_19 : decode cX1_grown 19 = .ok (.iload_n 1, 1) := by decide +kernel
theorem dX1_grown_20 : decode cX1_grown 20 = .ok (.iadd, 1) := by decide +kernel
theorem dX1_grown_21 : decode cX1_grown 21 = .ok (.ireturn, 1) := by decide +kernel
theorem dX1_signBehindFirst_0 : decode cX1_signBehindFirst 0 = .ok (.aload_n 0, 1) := by decide +kernel
theorem dX1_signBehindFirst_1 : decode cX1_signBehindFirst 1 = .ok (.getfield 15, 3) := by decide +kernel
theorem dX1_signBehindFirst_4 : decode cX1_signBehindFirst 4 = .ok (.lookupswitch 45 #[(98, 39), (104, 36), (109, 42)], 36) := by decide +kernel
theorem dX1_signBehindFirst_40 : decode cX1_signBehindFirst 40 = .ok (.bipush 64, 2) := by decide +kernel
theorem dX1_signBehindFirst_42 : decode cX1_signBehindFirst 42 = .ok (.ireturn, 1) := by decide +kernel
theorem dX1_signBehindFirst_43 : decode cX1_signBehindFirst 43 = .ok (.bipush 33, 2) := by decide +kernel
theorem dX1_signBehindFirst_45 : decode cX1_signBehindFirst 45 = .ok (.ireturn, 1) := by decide +kernel
theorem dX1_signBehindFirst_46 : decode cX1_signBehindFirst 46 = .ok (.bipush 43, 2) := by decide +kernel
theorem dX1_signBehindFirst_48 : decode cX1_signBehindFirst 48 = .ok (.ireturn, 1) := by decide +kernel
theorem dX1_signBehindFirst_49 : decode cX1_signBehindFirst 49 = .ok (.iconst (-1), 1) := by decide +kernel
theorem dX1_signBehindFirst_50 : decode cX1_signBehindFirst 50 = .ok (.ireturn, 1) := by decide +kernel
theorem dX1_highestFirst_0 : decode cX1_highestFirst 0 = .ok (.aload_n 0, 1) := by decide +kernel
theorem dX1_highestFirst_1 : decode cX1_highestFirst 1 = .ok (.getfield 15, 3) := by decide +kernel
theorem dX1_highestFirst_4 : decode cX1_highestFirst 4 = .ok (.bipush 104, 2) := by decide +kernel
theorem dX1_highestFirst_6 : decode cX1_highestFirst 6 = .ok (.if_icmp .eq 12, 3) := by decide +kernel
theorem dX1_highestFirst_9 : decode cX1_highestFirst 9 = .ok (.aload_n 0, 1) := by decide +kernel
theorem dX1_highestFirst_10 : decode cX1_highestFirst 10 = .ok (.getfield 15, 3) := by decide +kernel
theorem dX1_highestFirst_13 : decode cX1_highestFirst 13 = .ok (.bipush 109, 2) := by decide +kernel
theorem dX1_highestFirst_15 : decode cX1_highestFirst 15 = .ok (.if_icmp .ne 8, 3) := by decide +kernel
theorem dX1_highestFirst_18 : decode cX1_highestFirst 18 = .ok (.bipush 15, 2) := by decide +kernel
theorem dX1_highestFirst_20 : decode cX1_highestFirst 20 = .ok (.goto 5, 3) := by decide +kernel
theorem dX1_highestFirst_23 : decode cX1_highestFirst 23 = .ok (.bipush 23, 2) := by decide +kernel
theorem dX1_highestFirst_25 : decode cX1_highestFirst 25 = .ok (.ireturn, 1) := by decide +kernel
theorem dX1_lowestSecond_0 : decode cX1_lowestSecond 0 = .ok (.aload_n 0, 1) := by decide +kernel
theorem dX1_lowestSecond_1 : decode cX1_lowestSecond 1 = .ok (.getfield 15, 3) := by decide +kernel
theorem dX1_lowestSecond_4 : decode cX1_lowestSecond 4 = .ok (.bipush 98, 2) := by decide +kernel
theorem dX1_lowestSecond_6 : decode cX1_lowestSecond 6 = .ok (.if_icmp .ne 7, 3) := by decide +kernel
theorem dX1_lowestSecond_9 : decode cX1_lowestSecond 9 = .ok (.iconst 1, 1) := by decide +kernel
theorem dX1_lowestSecond_10 : decode cX1_lowestSecond 10 = .ok (.goto 4, 3) := by decide +kernel
theorem dX1_lowestSecond_13 : decode cX1_lowestSecond 13 = .ok (.iconst 0, 1) := by decide +kernel
theorem dX1_lowestSecond_14 : decode cX1_lowestSecond 14 = .ok (.ireturn, 1) := by decide +kernel
theorem dX1_highestSecond_0 : decode cX1_highestSecond 0 = .ok (.aload_n 0, 1) := by decide +kernel
theorem dX1_highestSecond_1 : decode cX1_highestSecond 1 = .ok (.getfield 15, 3) := by decide +kernel
theorem dX1_highestSecond_4 : decode cX1_highestSecond 4 = .ok (.lookupswitch 35 #[(98, 32), (104, 28)], 28) := by decide +kernel
theorem dX1_highestSecond_32 : decode cX1_highestSecond 32 = .ok (.sipush 1439, 3) := by decide +kernel
theorem dX1_highestSecond_35 : decode cX1_highestSecond 35 = .ok (.ireturn, 1) := by decide +kernel
theorem dX1_highestSecond_36 : decode cX1_highestSecond 36 = .ok (.bipush 9, 2) := by decide +kernel
theorem dX1_highestSecond_38 : decode cX1_highestSecond 38 = .ok (.ireturn, 1) := by decide +kernel
theorem dX1_highestSecond_39 : decode cX1_highestSecond 39 = .ok (.bipush 15, 2) := by decide +kernel
theorem dX1_highestSecond_41 : decode cX1_highestSecond 41 = .ok (.ireturn, 1) := by decide +kernel
theorem dX2_init_0 : decode cX2_init 0 = .ok (.aload_n 0, 1) := by decide +kernel
theorem dX2_init_1 : decode cX2_init 1 = .ok (.invokespecial 3, 3) := by decide +kernel
theorem dX2_init_4 : decode cX2_init 4 = .ok (.aload_n 0, 1) := by decide +kernel
theorem dX2_init_5 : decode cX2_init 5 = .ok (.bipush 25, 2) := by decide +kernel
theorem dX2_init_7 : decode cX2_init 7 = .ok (.newarray .int, 2) := by decide +kernel
theorem dX2_init_9 : decode cX2_init 9 = .ok (.putfield 9, 3) := by decide +kernel
theorem dX2_init_12 : decode cX2_init 12 = .ok (.aload_n 0, 1) := by decide +kernel
theorem dX2_init_13 : decode cX2_init 13 = .ok (.bipush 25, 2) := by decide +kernel
theorem dX2_init_15 : decode cX2_init 15 = .ok (.newarray .int, 2) := by decide +kernel
theorem dX2_init_17 : decode cX2_init 17 = .ok (.putfield 15, 3) := by decide +kernel
theorem dX2_init_20 : decode cX2_init 20 = .ok (.aload_n 0, 1) := by decide +kernel
theorem dX2_init_21 : decode cX2_init 21 = .ok (.iconst 0, 1) := by decide +kernel
theorem dX2_init_22 : decode cX2_init 22 = .ok (.putfield 18, 3) := by decide +kernel
theorem dX2_init_25 : decode cX2_init 25 = .ok (.return_, 1) := by decide +kernel
theorem dX2_copyFrom_0 : decode cX2_copyFrom 0 = .ok (.aload_n 1, 1) := by decide +kernel
theorem dX2_copyFrom_1 : decode cX2_copyFrom 1 = .ok (.getfield 9, 3) := by decide +kernel
theorem dX2_copyFrom_4 : decode cX2_copyFrom 4 = .ok (.iconst 0, 1) := by decide +kernel
theorem dX2_copyFrom_5 : decode cX2_copyFrom 5 = .ok (.aload_n 0, 1) := by decide +kernel
theorem dX2_copyFrom_6 : decode cX2_copyFrom 6 = .ok (.getfield 9, 3) := by decide +kernel
theorem dX2_copyFrom_9 : decode cX2_copyFrom 9 = .ok (.iconst 0, 1) := by decide +kernel
theorem dX2_copyFrom_10 : decode cX2_copyFrom 10 = .ok (.bipush 25, 2) := by decide +kernel
theorem dX2_copyFrom_12 : decode cX2_copyFrom 12 = .ok (.invokestatic 22, 3) := by decide +kernel
theorem dX2_copyFrom_15 : decode cX2_copyFrom 15 = .ok (.aload_n 1, 1) := by decide +kernel
theorem dX2_copyFrom_16 : decode cX2_copyFrom 16 = .ok (.getfield 15, 3) := by decide +kernel
theorem dX2_copyFrom_19 : decode cX2_copyFrom 19 = .ok (.iconst 0, 1) := by decide +kernel
theorem dX2_copyFrom_20 : decode cX2_copyFrom 20 = .ok (.aload_n 0, 1) := by decide +kernel
theorem dX2_copyFrom_21 : decode cX2_copyFrom 21 = .ok (.getfield 15, 3) := by decide +kernel
theorem dX2_copyFrom_24 : decode cX2_copyFrom 24 = .ok (.iconst 0, 1) := by decide +kernel
theorem dX2_copyFrom_25 : decode cX2_copyFrom 25 = .ok (.bipush 25, 2) := by decide +kernel
theorem dX2_copyFrom_27 : decode cX2_copyFrom 27 = .ok (.invokestatic 22, 3) := by decide +kernel
theorem dX2_copyFrom_30 : decode cX2_copyFrom 30 = .ok (.aload_n 0, 1) := by decide +kernel
theorem dX2_copyFrom_31 : decode cX2_copyFrom 31 = .ok (.aload_n 1, 1) := by decide +kernel
theorem dX2_copyFrom_32 : decode cX2_copyFrom 32 = .ok (.getfield 18, 3) := by decide +kernel
theorem dX2_copyFrom_35 : decode cX2_copyFrom 35 = .ok (.putfield 18, 3) := by decide +kernel
theorem dX2_copyFrom_38 : decode cX2_copyFrom 38 = .ok (.return_, 1) := by decide +kernel
theorem dX2_note_0 : decode cX2_note 0 = .ok (.aload_n 0, 1) := by decide +kernel
theorem dX2_note_1 : decode cX2_note 1 = .ok (.getfield 18, 3) := by decide +kernel
theorem dX2_note_4 : decode cX2_note 4 = .ok (.bipush 24, 2) := by decide +kernel
theorem dX2_note_6 : decode cX2_note 6 = .ok (.if_icmp .gt 33, 3) := by decide +kernel
theorem dX2_note_9 : decode cX2_note 9 = .ok (.aload_n 0, 1) := by decide +kernel
theorem dX2_note_10 : decode cX2_note 10 = .ok (.getfield 9, 3) := by decide +kernel
theorem dX2_note_13 : decode cX2_note 13 = .ok (.aload_n 0, 1) := by decide +kernel
theorem dX2_note_14 : decode cX2_note 14 = .ok (.getfield 18, 3) := by decide +kernel
theorem dX2_note_17 : decode cX2_note 17 = .ok (.iload_n 1, 1) := by decide +kernel
theorem dX2_note_18 : decode cX2_note 18 = .ok (.iastore, 1) := by decide +kernel
theorem dX2_note_19 : decode cX2_note 19 = .ok (.aload_n 0, 1) := by decide +kernel
theorem dX2_note_20 : decode cX2_note 20 = .ok (.getfield 15, 3) := by decide +kernel
theorem dX2_note_23 : decode cX2_note 23 = .ok (.aload_n 0, 1) := by decide +kernel
theorem dX2_note_24 : decode cX2_note 24 = .ok (.getfield 18, 3) := by decide +kernel
theorem dX2_note_27 : decode cX2_note 27 = .ok (.iload_n 2, 1) := by decide +kernel
theorem dX2_note_28 : decode cX2_note 28 = .ok (.iastore, 1) := by decide +kernel
theorem dX2_note_29 : decode cX2_note 29 = .ok (.aload_n 0, 1) := by decide +kernel
theorem dX2_note_30 : decode cX2_note 30 = .ok (.dup, 1) := by decide +kernel
theorem dX2_note_31 : decode cX2_note 31 = .ok (.getfield 18, 3) := by decide +kernel
theorem dX2_note_34 : decode cX2_note 34 = .ok (.iconst 1, 1) := by decide +kernel
theorem dX2_note_35 : decode cX2_note 35 = .ok (.iadd, 1) := by decide +kernel
theorem dX2_note_36 : decode cX2_note 36 = .ok (.putfield 18, 3) := by decide +kernel
theorem dX2_note_39 : decode cX2_note 39 = .ok (.return_, 1) := by decide +kernel
theorem dX3_isHole_0 : decode cX3_isHole 0 = .ok (.iload_n 0, 1) := by decide +kernel
theorem dX3_isHole_1 : decode cX3_isHole 1 = .ok (.ifCond .lt 13, 3) := by decide +kernel
theorem dX3_isHole_4 : decode cX3_isHole 4 = .ok (.iload_n 0, 1) := by decide +kernel
theorem dX3_isHole_5 : decode cX3_isHole 5 = .ok (.bipush 24, 2) := by decide +kernel
theorem dX3_isHole_7 : decode cX3_isHole 7 = .ok (.if_icmp .ge 7, 3) := by decide +kernel
theorem dX3_isHole_10 : decode cX3_isHole 10 = .ok (.iconst 1, 1) := by decide +kernel
theorem dX3_isHole_11 : decode cX3_isHole 11 = .ok (.goto 4, 3) := by decide +kernel
theorem dX3_isHole_14 : decode cX3_isHole 14 = .ok (.iconst 0, 1) := by decide +kernel
theorem dX3_isHole_15 : decode cX3_isHole 15 = .ok (.ireturn, 1) := by decide +kernel
/-- a name of the whole library: so every round is read over it from its first part on -/
theorem lw_wide3 : @Jvm.Free.Multi.outerC = @Jvm.Free.Multi.outerC := rfl
