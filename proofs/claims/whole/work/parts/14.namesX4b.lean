
set_option maxRecDepth 20000 in
theorem ggX4_set_X4_in : GoodIn wsX4_set wsX4_in := goodIn_r _ [6] (by decide +kernel) (by decide +kernel)
set_option maxRecDepth 20000 in
theorem gX4_set_X4_in : GoodIn wsX4_set (va_wsS RX4 29 yX4_in wsX4_in) := goodIn_app (goodIn_of _ (by decide +kernel)) ggX4_set_X4_in
set_option maxRecDepth 20000 in
theorem ggX4_set_X4_record : GoodIn wsX4_set wsX4_record := goodIn_r _ [10, 11, 12, 2, 13, 14, 15, 16, 17, 18, 19, 20, 21, 22, 23, 24] (by decide +kernel) (by decide +kernel)
set_option maxRecDepth 20000 in
theorem gX4_set_X4_record : GoodIn wsX4_set (wsV RX4 51 RX4 yX4_record wsX4_record) := goodIn_app (goodIn_of _ (by decide +kernel)) ggX4_set_X4_record
theorem dX4_set_0 : decode cX4_set 0 = .ok (.aload_n 0, 1) := by decide +kernel
theorem dX4_set_1 : decode cX4_set 1 = .ok (.iload_n 1, 1) := by decide +kernel
theorem dX4_set_2 : decode cX4_set 2 = .ok (.iconst 0, 1) := by decide +kernel
theorem dX4_set_3 : decode cX4_set 3 = .ok (.iconst 1, 1) := by decide +kernel
theorem dX4_set_4 : decode cX4_set 4 = .ok (.invokestatic 29, 3) := by decide +kernel
theorem dX4_set_7 : decode cX4_set 7 = .ok (.ifCond .ne 7, 3) := by decide +kernel
theorem dX4_set_10 : decode cX4_set 10 = .ok (.iconst 1, 1) := by decide +kernel
theorem dX4_set_11 : decode cX4_set 11 = .ok (.goto 28, 3) := by decide +kernel
theorem dX4_set_14 : decode cX4_set 14 = .ok (.iload_n 2, 1) := by decide +kernel
theorem dX4_set_15 : decode cX4_set 15 = .ok (.iconst 0, 1) := by decide +kernel
theorem dX4_set_16 : decode cX4_set 16 = .ok (.iload_n 1, 1) := by decide +kernel
theorem dX4_set_17 : decode cX4_set 17 = .ok (.ifCond .ne 9, 3) := by decide +kernel
theorem dX4_set_20 : decode cX4_set 20 = .ok (.sipush 1439, 3) := by decide +kernel
theorem dX4_set_23 : decode cX4_set 23 = .ok (.goto 5, 3) := by decide +kernel
theorem dX4_set_26 : decode cX4_set 26 = .ok (.bipush 24, 2) := by decide +kernel
theorem dX4_set_28 : decode cX4_set 28 = .ok (.invokestatic 29, 3) := by decide +kernel
theorem dX4_set_31 : decode cX4_set 31 = .ok (.ifCond .eq 7, 3) := by decide +kernel
theorem dX4_set_34 : decode cX4_set 34 = .ok (.iconst 0, 1) := by decide +kernel
theorem dX4_set_35 : decode cX4_set 35 = .ok (.goto 4, 3) := by decide +kernel
theorem dX4_set_38 : decode cX4_set 38 = .ok (.iconst 2, 1) := by decide +kernel
theorem dX4_set_39 : decode cX4_set 39 = .ok (.putfield 25, 3) := by decide +kernel
theorem dX4_set_42 : decode cX4_set 42 = .ok (.aload_n 0, 1) := by decide +kernel
theorem dX4_set_43 : decode cX4_set 43 = .ok (.getfield 25, 3) := by decide +kernel
theorem dX4_set_46 : decode cX4_set 46 = .ok (.ifCond .le 5, 3) := by decide +kernel
theorem dX4_set_49 : decode cX4_set 49 = .ok (.iconst 0, 1) := by decide +kernel
theorem dX4_set_50 : decode cX4_set 50 = .ok (.ireturn, 1) := by decide +kernel
theorem dX4_set_51 : decode cX4_set 51 = .ok (.aload_n 0, 1) := by decide +kernel
theorem dX4_set_52 : decode cX4_set 52 = .ok (.invokevirtual 51, 3) := by decide +kernel
theorem dX4_set_55 : decode cX4_set 55 = .ok (.aload_n 0, 1) := by decide +kernel
theorem dX4_set_56 : decode cX4_set 56 = .ok (.getfield 7, 3) := by decide +kernel
theorem dX4_set_59 : decode cX4_set 59 = .ok (.sipush 170, 3) := by decide +kernel
theorem dX4_set_62 : decode cX4_set 62 = .ok (.iload_n 1, 1) := by decide +kernel
theorem dX4_set_63 : decode cX4_set 63 = .ok (.iadd, 1) := by decide +kernel
theorem dX4_set_64 : decode cX4_set 64 = .ok (.iaload, 1) := by decide +kernel
theorem dX4_set_65 : decode cX4_set 65 = .ok (.istore_n 3, 1) := by decide +kernel
theorem dX4_set_66 : decode cX4_set 66 = .ok (.aload_n 0, 1) := by decide +kernel
theorem dX4_set_67 : decode cX4_set 67 = .ok (.getfield 7, 3) := by decide +kernel
theorem dX4_set_70 : decode cX4_set 70 = .ok (.sipush 170, 3) := by decide +kernel
theorem dX4_set_73 : decode cX4_set 73 = .ok (.iload_n 1, 1) := by decide +kernel
theorem dX4_set_74 : decode cX4_set 74 = .ok (.iadd, 1) := by decide +kernel
theorem dX4_set_75 : decode cX4_set 75 = .ok (.iload_n 2, 1) := by decide +kernel
theorem dX4_set_76 : decode cX4_set 76 = .ok (.iastore, 1) := by decide +kernel
theorem dX4_set_77 : decode cX4_set 77 = .ok (.iload_n 3, 1) := by decide +kernel
theorem dX4_set_78 : decode cX4_set 78 = .ok (.ireturn, 1) := by decide +kernel
set_option maxRecDepth 20000 in
theorem ggX4_append_X4_in : GoodIn wsX4_append wsX4_in := goodIn_r _ [7] (by decide +kernel) (by decide +kernel)
set_option maxRecDepth 20000 in
theorem gX4_append_X4_in : GoodIn wsX4_append (va_wsS RX4 29 yX4_in wsX4_in) := goodIn_app (goodIn_of _ (by decide +kernel)) ggX4_append_X4_in
theorem dX4_append_0 : decode cX4_append 0 = .ok (.aload_n 0, 1) := by decide +kernel
theorem dX4_append_1 : decode cX4_append 1 = .ok (.iload_n 1, 1) := by decide +kernel
theorem dX4_append_2 : decode cX4_append 2 = .ok (.bipush 33, 2) := by decide +kernel
theorem dX4_append_4 : decode cX4_append 4 = .ok (.bipush 126, 2) := by decide +kernel
theorem dX4_append_6 : decode cX4_append 6 = .ok (.invokestatic 29, 3) := by decide +kernel
theorem dX4_append_9 : decode cX4_append 9 = .ok (.ifCond .ne 7, 3) := by decide +kernel
theorem dX4_append_12 : decode cX4_append 12 = .ok (.iconst 1, 1) := by decide +kernel
theorem dX4_append_13 : decode cX4_append 13 = .ok (.goto 17, 3) := by decide +kernel
theorem dX4_append_16 : decode cX4_append 16 = .ok (.aload_n 0, 1) := by decide +kernel
theorem dX4_append_17 : decode cX4_append 17 = .ok (.getfield 118, 3) := by decide +kernel
theorem dX4_append_20 : decode cX4_append 20 = .ok (.bipush 60, 2) := by decide +kernel
theorem dX4_append_22 : decode cX4_append 22 = .ok (.if_icmp .ne 7, 3) := by decide +kernel
theorem dX4_append_25 : decode cX4_append 25 = .ok (.iconst 2, 1) := by decide +kernel
theorem dX4_append_26 : decode cX4_append 26 = .ok (.goto 4, 3) := by decide +kernel
theorem dX4_append_29 : decode cX4_append 29 = .ok (.iconst 0, 1) := by decide +kernel
theorem dX4_append_30 : decode cX4_append 30 = .ok (.putfield 25, 3) := by decide +kernel
theorem dX4_append_33 : decode cX4_append 33 = .ok (.aload_n 0, 1) := by decide +kernel
theorem dX4_append_34 : decode cX4_append 34 = .ok (.getfield 25, 3) := by decide +kernel
theorem dX4_append_37 : decode cX4_append 37 = .ok (.ifCond .le 5, 3) := by decide +kernel
theorem dX4_append_40 : decode cX4_append 40 = .ok (.iconst 0, 1) := by decide +kernel
theorem dX4_append_41 : decode cX4_append 41 = .ok (.ireturn, 1) := by decide +kernel
theorem dX4_append_42 : decode cX4_append 42 = .ok (.aload_n 0, 1) := by decide +kernel
theorem dX4_append_43 : decode cX4_append 43 = .ok (.getfield 22, 3) := by decide +kernel
theorem dX4_append_46 : decode cX4_append 46 = .ok (.aload_n 0, 1) := by decide +kernel
theorem dX4_append_47 : decode cX4_append 47 = .ok (.getfield 118, 3) := by decide +kernel
theorem dX4_append_50 : decode cX4_append 50 = .ok (.iload_n 1, 1) := by decide +kernel
theorem dX4_append_51 : decode cX4_append 51 = .ok (.iastore, 1) := by decide +kernel
theorem dX4_append_52 : decode cX4_append 52 = .ok (.aload_n 0, 1) := by decide +kernel
theorem dX4_append_53 : decode cX4_append 53 = .ok (.dup, 1) := by decide +kernel
theorem dX4_append_54 : decode cX4_append 54 = .ok (.getfield 118, 3) := by decide +kernel
theorem dX4_append_57 : decode cX4_append 57 = .ok (.iconst 1, 1) := by decide +kernel
theorem dX4_append_58 : decode cX4_append 58 = .ok (.iadd, 1) := by decide +kernel
theorem dX4_append_59 : decode cX4_append 59 = .ok (.putfield 118, 3) := by decide +kernel
theorem dX4_append_62 : decode cX4_append 62 = .ok (.aload_n 0, 1) := by decide +kernel
theorem dX4_append_63 : decode cX4_append 63 = .ok (.getfield 118, 3) := by decide +kernel
theorem dX4_append_66 : decode cX4_append 66 = .ok (.ireturn, 1) := by decide +kernel
theorem dX4_clearBuffer_0 : decode cX4_clearBuffer 0 = .ok (.aload_n 0, 1) := by decide +kernel
theorem dX4_clearBuffer_1 : decode cX4_clearBuffer 1 = .ok (.iconst 0, 1) := by decide +kernel
theorem dX4_clearBuffer_2 : decode cX4_clearBuffer 2 = .ok (.putfield 25, 3) := by decide +kernel
theorem dX4_clearBuffer_5 : decode cX4_clearBuffer 5 = .ok (.aload_n 0, 1) := by decide +kernel
theorem dX4_clearBuffer_6 : decode cX4_clearBuffer 6 = .ok (.getfield 118, 3) := by decide +kernel
theorem dX4_clearBuffer_9 : decode cX4_clearBuffer 9 = .ok (.istore_n 1, 1) := by decide +kernel
theorem dX4_clearBuffer_10 : decode cX4_clearBuffer 10 = .ok (.aload_n 0, 1) := by decide +kernel
theorem dX4_clearBuffer_11 : decode cX4_clearBuffer 11 = .ok (.iconst 0, 1) := by decide +kernel
theorem dX4_clearBuffer_12 : decode cX4_clearBuffer 12 = .ok (.putfield 118, 3) := by decide +kernel
theorem dX4_clearBuffer_15 : decode cX4_clearBuffer 15 = .ok (.iload_n 1, 1) := by decide +kernel
theorem dX4_clearBuffer_16 : decode cX4_clearBuffer 16 = .ok (.ireturn, 1) := by decide +kernel
theorem dX4_at_0 : decode cX4_at 0 = .ok (.iload_n 1, 1) := by decide +kernel
theorem dX4_at_1 : decode cX4_at 1 = .ok (.aload_n 0, 1) := by decide +kernel
theorem dX4_at_2 : decode cX4_at 2 = .ok (.getfield 118, 3) := by decide +kernel
theorem dX4_at_5 : decode cX4_at 5 = .ok (.if_icmp .ge 12, 3) := by decide +kernel
theorem dX4_at_8 : decode cX4_at 8 = .ok (.aload_n 0, 1) := by decide +kernel
theorem dX4_at_9 : decode cX4_at 9 = .ok (.getfield 22, 3) := by decide +kernel
theorem dX4_at_12 : decode cX4_at 12 = .ok (.iload_n 1, 1) := by decide +kernel
theorem dX4_at_13 : decode cX4_at 13 = .ok (.iaload, 1) := by decide +kernel
theorem dX4_at_14 : decode cX4_at 14 = .ok (.goto 4, 3) := by decide +kernel
theorem dX4_at_17 : decode cX4_at 17 = .ok (.iconst 0, 1) := by decide +kernel
theorem dX4_at_18 : decode cX4_at 18 = .ok (.ireturn, 1) := by decide +kernel
set_option maxRecDepth 20000 in
theorem ggX4_readNumber_X4_at : GoodIn wsX4_readNumber wsX4_at := goodIn_r _ [6, 7, 8, 12, 13, 14, 15, 16, 17, 18, 19, 20, 21, 22, 23] (by decide +kernel) (by decide +kernel)
set_option maxRecDepth 20000 in
theorem gX4_readNumber_X4_at : GoodIn wsX4_readNumber (wsV RX4 121 RX4 yX4_at wsX4_at) := goodIn_app (goodIn_of _ (by decide +kernel)) ggX4_readNumber_X4_at
set_option maxRecDepth 20000 in
theorem ggX4_readNumber_X4_in : GoodIn wsX4_readNumber wsX4_in := goodIn_r _ [11] (by decide +kernel) (by decide +kernel)
set_option maxRecDepth 20000 in
theorem gX4_readNumber_X4_in : GoodIn wsX4_readNumber (va_wsS RX4 29 yX4_in wsX4_in) := goodIn_app (goodIn_of _ (by decide +kernel)) ggX4_readNumber_X4_in
theorem dX4_readNumber_0 : decode cX4_readNumber 0 = .ok (.iload_n 1, 1) := by decide +kernel
theorem dX4_readNumber_1 : decode cX4_readNumber 1 = .ok (.iconst 1, 1) := by decide +kernel
theorem dX4_readNumber_2 : decode cX4_readNumber 2 = .ok (.iadd, 1) := by decide +kernel
theorem dX4_readNumber_3 : decode cX4_readNumber 3 = .ok (.istore 4, 2) := by decide +kernel
theorem dX4_readNumber_5 : decode cX4_readNumber 5 = .ok (.aload_n 0, 1) := by decide +kernel
theorem dX4_readNumber_6 : decode cX4_readNumber 6 = .ok (.aload_n 0, 1) := by decide +kernel
theorem dX4_readNumber_7 : decode cX4_readNumber 7 = .ok (.iload_n 1, 1) := by decide +kernel
theorem dX4_readNumber_8 : decode cX4_readNumber 8 = .ok (.invokevirtual 121, 3) := by decide +kernel
theorem dX4_readNumber_11 : decode cX4_readNumber 11 = .ok (.bipush 48, 2) := by decide +kernel
theorem dX4_readNumber_13 : decode cX4_readNumber 13 = .ok (.isub, 1) := by decide +kernel
theorem dX4_readNumber_14 : decode cX4_readNumber 14 = .ok (.putfield 124, 3) := by decide +kernel
theorem dX4_readNumber_17 : decode cX4_readNumber 17 = .ok (.aload_n 0, 1) := by decide +kernel
theorem dX4_readNumber_18 : decode cX4_readNumber 18 = .ok (.getfield 124, 3) := by decide +kernel
theorem dX4_readNumber_21 : decode cX4_readNumber 21 = .ok (.iload_n 2, 1) := by decide +kernel
theorem dX4_readNumber_22 : decode cX4_readNumber 22 = .ok (.bipush 9, 2) := by decide +kernel
theorem dX4_readNumber_24 : decode cX4_readNumber 24 = .ok (.invokestatic 29, 3) := by decide +kernel
theorem dX4_readNumber_27 : decode cX4_readNumber 27 = .ok (.ifCond .ne 7, 3) := by decide +kernel
theorem dX4_readNumber_30 : decode cX4_readNumber 30 = .ok (.iconst (-1), 1) := by decide +kernel
theorem dX4_readNumber_31 : decode cX4_readNumber 31 = .ok (.iload_n 1, 1) := by decide +kernel
theorem dX4_readNumber_32 : decode cX4_readNumber 32 = .ok (.isub, 1) := by decide +kernel
theorem dX4_readNumber_33 : decode cX4_readNumber 33 = .ok (.ireturn, 1) := by decide +kernel
theorem dX4_readNumber_34 : decode cX4_readNumber 34 = .ok (.aload_n 0, 1) := by decide +kernel
theorem dX4_readNumber_35 : decode cX4_readNumber 35 = .ok (.getfield 124, 3) := by decide +kernel
theorem dX4_readNumber_38 : decode cX4_readNumber 38 = .ok (.ifCond .le 67, 3) := by decide +kernel
theorem dX4_readNumber_41 : decode cX4_readNumber 41 = .ok (.aload_n 0, 1) := by decide +kernel
theorem dX4_readNumber_42 : decode cX4_readNumber 42 = .ok (.iload 4, 2) := by decide +kernel
theorem dX4_readNumber_44 : decode cX4_readNumber 44 = .ok (.invokevirtual 121, 3) := by decide +kernel
theorem dX4_readNumber_47 : decode cX4_readNumber 47 = .ok (.bipush 48, 2) := by decide +kernel
theorem dX4_readNumber_49 : decode cX4_readNumber 49 = .ok (.bipush 57, 2) := by decide +kernel
theorem dX4_readNumber_51 : decode cX4_readNumber 51 = .ok (.invokestatic 29, 3) := by decide +kernel
theorem dX4_readNumber_54 : decode cX4_readNumber 54 = .ok (.ifCond .eq 51, 3) := by decide +kernel
theorem dX4_readNumber_57 : decode cX4_readNumber 57 = .ok (.bipush 10, 2) := by decide +kernel
theorem dX4_readNumber_59 : decode cX4_readNumber 59 = .ok (.aload_n 0, 1) := by decide +kernel
theorem dX4_readNumber_60 : decode cX4_readNumber 60 = .ok (.getfield 124, 3) := by decide +kernel
theorem dX4_readNumber_63 : decode cX4_readNumber 63 = .ok (.imul, 1) := by decide +kernel
theorem dX4_readNumber_64 : decode cX4_readNumber 64 = .ok (.aload_n 0, 1) := by decide +kernel
theorem dX4_readNumber_65 : decode cX4_readNumber 65 = .ok (.iload 4, 2) := by decide +kernel
theorem dX4_readNumber_67 : decode cX4_readNumber 67 = .ok (.invokevirtual 121, 3) := by decide +kernel
theorem dX4_readNumber_70 : decode cX4_readNumber 70 = .ok (.iadd, 1) := by decide +kernel
theorem dX4_readNumber_71 : decode cX4_readNumber 71 = .ok (.bipush 48, 2) := by decide +kernel
theorem dX4_readNumber_73 : decode cX4_readNumber 73 = .ok (.isub, 1) := by decide +kernel
theorem dX4_readNumber_74 : decode cX4_readNumber 74 = .ok (.iload_n 3, 1) := by decide +kernel
theorem dX4_readNumber_75 : decode cX4_readNumber 75 = .ok (.if_icmp .gt 30, 3) := by decide +kernel
theorem dX4_readNumber_78 : decode cX4_readNumber 78 = .ok (.aload_n 0, 1) := by decide +kernel
theorem dX4_readNumber_79 : decode cX4_readNumber 79 = .ok (.bipush 10, 2) := by decide +kernel
theorem dX4_readNumber_81 : decode cX4_readNumber 81 = .ok (.aload_n 0, 1) := by decide +kernel
theorem dX4_readNumber_82 : decode cX4_readNumber 82 = .ok (.getfield 124, 3) := by decide +kernel
theorem dX4_readNumber_85 : decode cX4_readNumber 85 = .ok (.imul, 1) := by decide +kernel
theorem dX4_readNumber_86 : decode cX4_readNumber 86 = .ok (.aload_n 0, 1) := by decide +kernel
theorem dX4_readNumber_87 : decode cX4_readNumber 87 = .ok (.iload 4, 2) := by decide +kernel
theorem dX4_readNumber_89 : decode cX4_readNumber 89 = .ok (.invokevirtual 121, 3) := by decide +kernel
theorem dX4_readNumber_92 : decode cX4_readNumber 92 = .ok (.iadd, 1) := by decide +kernel
theorem dX4_readNumber_93 : decode cX4_readNumber 93 = .ok (.bipush 48, 2) := by decide +kernel
theorem dX4_readNumber_95 : decode cX4_readNumber 95 = .ok (.isub, 1) := by decide +kernel
theorem dX4_readNumber_96 : decode cX4_readNumber 96 = .ok (.putfield 124, 3) := by decide +kernel
theorem dX4_readNumber_99 : decode cX4_readNumber 99 = .ok (.iinc 4 1, 3) := by decide +kernel
theorem dX4_readNumber_102 : decode cX4_readNumber 102 = .ok (.goto (-68), 3) := by decide +kernel
theorem dX4_readNumber_105 : decode cX4_readNumber 105 = .ok (.iload 4, 2) := by decide +kernel
theorem dX4_readNumber_107 : decode cX4_readNumber 107 = .ok (.ireturn, 1) := by decide +kernel
set_option maxRecDepth 20000 in
theorem ggX4_readTwo_X4_readNumber : GoodIn wsX4_readTwo wsX4_readNumber := goodIn_r _ [7, 1, 8, 9, 10, 6, 11, 12, 13, 14, 15, 16, 17, 18, 19, 20, 21, 22, 23, 24, 25, 26, 27, 28] (by decide +kernel) (by decide +kernel)
set_option maxRecDepth 20000 in
theorem gX4_readTwo_X4_readNumber : GoodIn wsX4_readTwo (wsV RX4 127 RX4 yX4_readNumber wsX4_readNumber) := goodIn_app (goodIn_of _ (by decide +kernel)) ggX4_readTwo_X4_readNumber
set_option maxRecDepth 20000 in
theorem ggX4_readTwo_X4_at : GoodIn wsX4_readTwo wsX4_at := goodIn_r _ [11, 12, 13, 17, 18, 19, 20, 21, 22, 23, 24, 25, 26, 27, 28] (by decide +kernel) (by decide +kernel)
set_option maxRecDepth 20000 in
theorem gX4_readTwo_X4_at : GoodIn wsX4_readTwo (wsV RX4 121 RX4 yX4_at wsX4_at) := goodIn_app (goodIn_of _ (by decide +kernel)) ggX4_readTwo_X4_at
theorem dX4_readTwo_0 : decode cX4_readTwo 0 = .ok (.aload_n 0, 1) := by decide +kernel
theorem dX4_readTwo_1 : decode cX4_readTwo 1 = .ok (.iload_n 1, 1) := by decide +kernel
theorem dX4_readTwo_2 : decode cX4_readTwo 2 = .ok (.iconst 0, 1) := by decide +kernel
theorem dX4_readTwo_3 : decode cX4_readTwo 3 = .ok (.iload_n 2, 1) := by decide +kernel
theorem dX4_readTwo_4 : decode cX4_readTwo 4 = .ok (.invokevirtual 127, 3) := by decide +kernel
theorem dX4_readTwo_7 : decode cX4_readTwo 7 = .ok (.istore 6, 2) := by decide +kernel
theorem dX4_readTwo_9 : decode cX4_readTwo 9 = .ok (.aload_n 0, 1) := by decide +kernel
theorem dX4_readTwo_10 : decode cX4_readTwo 10 = .ok (.aload_n 0, 1) := by decide +kernel
theorem dX4_readTwo_11 : decode cX4_readTwo 11 = .ok (.getfield 124, 3) := by decide +kernel
theorem dX4_readTwo_14 : decode cX4_readTwo 14 = .ok (.putfield 131, 3) := by decide +kernel
theorem dX4_readTwo_17 : decode cX4_readTwo 17 = .ok (.iload 6, 2) := by decide +kernel
theorem dX4_readTwo_19 : decode cX4_readTwo 19 = .ok (.ifCond .ge 6, 3) := by decide +kernel
theorem dX4_readTwo_22 : decode cX4_readTwo 22 = .ok (.iload 6, 2) := by decide +kernel
theorem dX4_readTwo_24 : decode cX4_readTwo 24 = .ok (.ireturn, 1) := by decide +kernel
theorem dX4_readTwo_25 : decode cX4_readTwo 25 = .ok (.aload_n 0, 1) := by decide +kernel
theorem dX4_readTwo_26 : decode cX4_readTwo 26 = .ok (.iload 6, 2) := by decide +kernel
theorem dX4_readTwo_28 : decode cX4_readTwo 28 = .ok (.invokevirtual 121, 3) := by decide +kernel
theorem dX4_readTwo_31 : decode cX4_readTwo 31 = .ok (.iload_n 3, 1) := by decide +kernel
theorem dX4_readTwo_32 : decode cX4_readTwo 32 = .ok (.if_icmp .ne 18, 3) := by decide +kernel
theorem dX4_readTwo_35 : decode cX4_readTwo 35 = .ok (.aload_n 0, 1) := by decide +kernel
theorem dX4_readTwo_36 : decode cX4_readTwo 36 = .ok (.iload 6, 2) := by decide +kernel
theorem dX4_readTwo_38 : decode cX4_readTwo 38 = .ok (.iconst 1, 1) := by decide +kernel
theorem dX4_readTwo_39 : decode cX4_readTwo 39 = .ok (.iadd, 1) := by decide +kernel
theorem dX4_readTwo_40 : decode cX4_readTwo 40 = .ok (.iload 4, 2) := by decide +kernel
theorem dX4_readTwo_42 : decode cX4_readTwo 42 = .ok (.iload 5, 2) := by decide +kernel
theorem dX4_readTwo_44 : decode cX4_readTwo 44 = .ok (.invokevirtual 127, 3) := by decide +kernel
theorem dX4_readTwo_47 : decode cX4_readTwo 47 = .ok (.goto 7, 3) := by decide +kernel
theorem dX4_readTwo_50 : decode cX4_readTwo 50 = .ok (.iconst (-1), 1) := by decide +kernel
theorem dX4_readTwo_51 : decode cX4_readTwo 51 = .ok (.iload 6, 2) := by decide +kernel
theorem dX4_readTwo_53 : decode cX4_readTwo 53 = .ok (.isub, 1) := by decide +kernel
theorem dX4_readTwo_54 : decode cX4_readTwo 54 = .ok (.ireturn, 1) := by decide +kernel
set_option maxRecDepth 20000 in
theorem ggX4_readPart_X4_at : GoodIn wsX4_readPart wsX4_at := goodIn_r _ [6, 7, 8, 22, 23, 24, 25, 26, 27, 28, 29, 30, 31, 32, 33] (by decide +kernel) (by decide +kernel)
set_option maxRecDepth 20000 in
theorem gX4_readPart_X4_at : GoodIn wsX4_readPart (wsV RX4 121 RX4 yX4_at wsX4_at) := goodIn_app (goodIn_of _ (by decide +kernel)) ggX4_readPart_X4_at
set_option maxRecDepth 20000 in
theorem ggX4_readPart_X4_readTwo : GoodIn wsX4_readPart wsX4_readTwo := goodIn_r _ [12, 13, 14, 15, 16, 17, 5, 18, 2, 3, 4, 6, 7, 8, 19, 20, 21, 22, 23, 24, 25, 26, 27, 28, 29, 30, 31, 32, 33] (by decide +kernel) (by decide +kernel)
set_option maxRecDepth 20000 in
theorem gX4_readPart_X4_readTwo : GoodIn wsX4_readPart (wsV RX4 137 RX4 yX4_readTwo wsX4_readTwo) := goodIn_app (goodIn_of _ (by decide +kernel)) ggX4_readPart_X4_readTwo
set_option maxRecDepth 20000 in
theorem ggX4_readPart_X4_readNumber : GoodIn wsX4_readPart wsX4_readNumber := goodIn_r _ [18, 13, 2, 3, 4, 5, 6, 7, 8, 19, 20, 21, 22, 23, 24, 25, 26, 27, 28, 29, 30, 31, 32, 33] (by decide +kernel) (by decide +kernel)
set_option maxRecDepth 20000 in
theorem gX4_readPart_X4_readNumber : GoodIn wsX4_readPart (wsV RX4 127 RX4 yX4_readNumber wsX4_readNumber) := goodIn_app (goodIn_of _ (by decide +kernel)) ggX4_readPart_X4_readNumber
theorem dX4_readPart_0 : decode cX4_readPart 0 = .ok (.aload_n 0, 1) := by decide +kernel
theorem dX4_readPart_1 : decode cX4_readPart 1 = .ok (.aload_n 0, 1) := by decide +kernel
theorem dX4_readPart_2 : decode cX4_readPart 2 = .ok (.iload_n 1, 1) := by decide +kernel
theorem dX4_readPart_3 : decode cX4_readPart 3 = .ok (.invokevirtual 121, 3) := by decide +kernel
theorem dX4_readPart_6 : decode cX4_readPart 6 = .ok (.putfield 134, 3) := by decide +kernel
theorem dX4_readPart_9 : decode cX4_readPart 9 = .ok (.aload_n 0, 1) := by decide +kernel
theorem dX4_readPart_10 : decode cX4_readPart 10 = .ok (.getfield 134, 3) := by decide +kernel
theorem dX4_readPart_13 : decode cX4_readPart 13 = .ok (.lookupswitch 120 #[(94, 116), (98, 75), (104, 59), (109, 90), (111, 105), (120, 105)], 59) := by decide +kernel
theorem dX4_readPart_72 : decode cX4_readPart 72 = .ok (.aload_n 0, 1) := by decide +kernel
theorem dX4_readPart_73 : decode cX4_readPart 73 = .ok (.iload_n 1, 1) := by decide +kernel
theorem dX4_readPart_74 : decode cX4_readPart 74 = .ok (.iconst 1, 1) := by decide +kernel
theorem dX4_readPart_75 : decode cX4_readPart 75 = .ok (.iadd, 1) := by decide +kernel
theorem dX4_readPart_76 : decode cX4_readPart 76 = .ok (.bipush 15, 2) := by decide +kernel
theorem dX4_readPart_78 : decode cX4_readPart 78 = .ok (.bipush 64, 2) := by decide +kernel
theorem dX4_readPart_80 : decode cX4_readPart 80 = .ok (.iconst 0, 1) := by decide +kernel
theorem dX4_readPart_81 : decode cX4_readPart 81 = .ok (.sipush 1439, 3) := by decide +kernel
theorem dX4_readPart_84 : decode cX4_readPart 84 = .ok (.invokevirtual 137, 3) := by decide +kernel
theorem dX4_readPart_87 : decode cX4_readPart 87 = .ok (.ireturn, 1) := by decide +kernel
theorem dX4_readPart_88 : decode cX4_readPart 88 = .ok (.aload_n 0, 1) := by decide +kernel
theorem dX4_readPart_89 : decode cX4_readPart 89 = .ok (.iload_n 1, 1) := by decide +kernel
theorem dX4_readPart_90 : decode cX4_readPart 90 = .ok (.iconst 1, 1) := by decide +kernel
theorem dX4_readPart_91 : decode cX4_readPart 91 = .ok (.iadd, 1) := by decide +kernel
theorem dX4_readPart_92 : decode cX4_readPart 92 = .ok (.bipush 23, 2) := by decide +kernel
theorem dX4_readPart_94 : decode cX4_readPart 94 = .ok (.bipush 33, 2) := by decide +kernel
theorem dX4_readPart_96 : decode cX4_readPart 96 = .ok (.iconst 1, 1) := by decide +kernel
theorem dX4_readPart_97 : decode cX4_readPart 97 = .ok (.bipush 9, 2) := by decide +kernel
theorem dX4_readPart_99 : decode cX4_readPart 99 = .ok (.invokevirtual 137, 3) := by decide +kernel
theorem dX4_readPart_102 : decode cX4_readPart 102 = .ok (.ireturn, 1) := by decide +kernel
theorem dX4_readPart_103 : decode cX4_readPart 103 = .ok (.aload_n 0, 1) := by decide +kernel
theorem dX4_readPart_104 : decode cX4_readPart 104 = .ok (.iload_n 1, 1) := by decide +kernel
theorem dX4_readPart_105 : decode cX4_readPart 105 = .ok (.iconst 1, 1) := by decide +kernel
theorem dX4_readPart_106 : decode cX4_readPart 106 = .ok (.iadd, 1) := by decide +kernel
theorem dX4_readPart_107 : decode cX4_readPart 107 = .ok (.bipush 15, 2) := by decide +kernel
theorem dX4_readPart_109 : decode cX4_readPart 109 = .ok (.bipush 43, 2) := by decide +kernel
theorem dX4_readPart_111 : decode cX4_readPart 111 = .ok (.iconst 0, 1) := by decide +kernel
theorem dX4_readPart_112 : decode cX4_readPart 112 = .ok (.bipush 15, 2) := by decide +kernel
theorem dX4_readPart_114 : decode cX4_readPart 114 = .ok (.invokevirtual 137, 3) := by decide +kernel
theorem dX4_readPart_117 : decode cX4_readPart 117 = .ok (.ireturn, 1) := by decide +kernel
theorem dX4_readPart_118 : decode cX4_readPart 118 = .ok (.aload_n 0, 1) := by decide +kernel
theorem dX4_readPart_119 : decode cX4_readPart 119 = .ok (.iload_n 1, 1) := by decide +kernel
theorem dX4_readPart_120 : decode cX4_readPart 120 = .ok (.iconst 1, 1) := by decide +kernel
theorem dX4_readPart_121 : decode cX4_readPart 121 = .ok (.iadd, 1) := by decide +kernel
theorem dX4_readPart_122 : decode cX4_readPart 122 = .ok (.iconst 0, 1) := by decide +kernel
theorem dX4_readPart_123 : decode cX4_readPart 123 = .ok (.bipush 23, 2) := by decide +kernel
theorem dX4_readPart_125 : decode cX4_readPart 125 = .ok (.invokevirtual 127, 3) := by decide +kernel
theorem dX4_readPart_128 : decode cX4_readPart 128 = .ok (.ireturn, 1) := by decide +kernel
theorem dX4_readPart_129 : decode cX4_readPart 129 = .ok (.iload_n 1, 1) := by decide +kernel
theorem dX4_readPart_130 : decode cX4_readPart 130 = .ok (.iconst 1, 1) := by decide +kernel
theorem dX4_readPart_131 : decode cX4_readPart 131 = .ok (.iadd, 1) := by decide +kernel
theorem dX4_readPart_132 : decode cX4_readPart 132 = .ok (.ireturn, 1) := by decide +kernel
theorem dX4_readPart_133 : decode cX4_readPart 133 = .ok (.iconst (-1), 1) := by decide +kernel
theorem dX4_readPart_134 : decode cX4_readPart 134 = .ok (.iload_n 1, 1) := by decide +kernel
theorem dX4_readPart_135 : decode cX4_readPart 135 = .ok (.isub, 1) := by decide +kernel
theorem dX4_readPart_136 : decode cX4_readPart 136 = .ok (.ireturn, 1) := by decide +kernel
set_option maxRecDepth 20000 in
theorem ggX4_findError_X4_readPart : GoodIn wsX4_findError wsX4_readPart := goodIn_r _ [7, 8, 9, 10, 11, 6, 12, 1, 2, 13, 14, 15, 16, 17, 18, 19, 20, 21, 22, 23, 24, 25, 26, 27, 28, 29, 30, 31, 32, 33, 34, 35, 36, 37] (by decide +kernel) (by decide +kernel)
set_option maxRecDepth 20000 in
theorem gX4_findError_X4_readPart : GoodIn wsX4_findError (wsV RX4 141 RX4 yX4_readPart wsX4_readPart) := goodIn_app (goodIn_of _ (by decide +kernel)) ggX4_findError_X4_readPart
theorem dX4_findError_0 : decode cX4_findError 0 = .ok (.iconst 0, 1) := by decide +kernel
theorem dX4_findError_1 : decode cX4_findError 1 = .ok (.istore_n 1, 1) := by decide +kernel
theorem dX4_findError_2 : decode cX4_findError 2 = .ok (.aload_n 0, 1) := by decide +kernel
theorem dX4_findError_3 : decode cX4_findError 3 = .ok (.iload_n 1, 1) := by decide +kernel
theorem dX4_findError_4 : decode cX4_findError 4 = .ok (.invokevirtual 141, 3) := by decide +kernel
theorem dX4_findError_7 : decode cX4_findError 7 = .ok (.istore_n 1, 1) := by decide +kernel
theorem dX4_findError_8 : decode cX4_findError 8 = .ok (.iload_n 1, 1) := by decide +kernel
theorem dX4_findError_9 : decode cX4_findError 9 = .ok (.ifCond .ge 7, 3) := by decide +kernel
theorem dX4_findError_12 : decode cX4_findError 12 = .ok (.iconst (-1), 1) := by decide +kernel
theorem dX4_findError_13 : decode cX4_findError 13 = .ok (.iload_n 1, 1) := by decide +kernel
theorem dX4_findError_14 : decode cX4_findError 14 = .ok (.isub, 1) := by decide +kernel
theorem dX4_findError_15 : decode cX4_findError 15 = .ok (.ireturn, 1) := by decide +kernel
theorem dX4_findError_16 : decode cX4_findError 16 = .ok (.iload_n 1, 1) := by decide +kernel
theorem dX4_findError_17 : decode cX4_findError 17 = .ok (.aload_n 0, 1) := by decide +kernel
theorem dX4_findError_18 : decode cX4_findError 18 = .ok (.getfield 118, 3) := by decide +kernel
theorem dX4_findError_21 : decode cX4_findError 21 = .ok (.if_icmp .ne 5, 3) := by decide +kernel
theorem dX4_findError_24 : decode cX4_findError 24 = .ok (.iconst (-1), 1) := by decide +kernel
theorem dX4_findError_25 : decode cX4_findError 25 = .ok (.ireturn, 1) := by decide +kernel
theorem dX4_findError_26 : decode cX4_findError 26 = .ok (.aload_n 0, 1) := by decide +kernel
theorem dX4_findError_27 : decode cX4_findError 27 = .ok (.getfield 22, 3) := by decide +kernel
theorem dX4_findError_30 : decode cX4_findError 30 = .ok (.iload_n 1, 1) := by decide +kernel
theorem dX4_findError_31 : decode cX4_findError 31 = .ok (.iaload, 1) := by decide +kernel
theorem dX4_findError_32 : decode cX4_findError 32 = .ok (.bipush 59, 2) := by decide +kernel
theorem dX4_findError_34 : decode cX4_findError 34 = .ok (.if_icmp .eq 5, 3) := by decide +kernel
theorem dX4_findError_37 : decode cX4_findError 37 = .ok (.iload_n 1, 1) := by decide +kernel
theorem dX4_findError_38 : decode cX4_findError 38 = .ok (.ireturn, 1) := by decide +kernel
theorem dX4_findError_39 : decode cX4_findError 39 = .ok (.iinc 1 1, 3) := by decide +kernel
theorem dX4_findError_42 : decode cX4_findError 42 = .ok (.goto (-40), 3) := by decide +kernel
set_option maxRecDepth 20000 in
theorem ggX4_firstError_X4_findError : GoodIn wsX4_firstError wsX4_findError := goodIn_r _ [7, 2, 8, 9, 10, 11, 6, 12, 13, 14, 15, 16, 17, 18, 19, 20, 21, 22, 23, 24, 25, 26, 27, 28, 29, 30, 31, 32, 33, 34, 35, 36, 37, 38, 39, 40, 41, 42] (by decide +kernel) (by decide +kernel)
set_option maxRecDepth 20000 in
theorem gX4_firstError_X4_findError : GoodIn wsX4_firstError (wsV RX4 144 RX4 yX4_findError wsX4_findError) := goodIn_app (goodIn_of _ (by decide +kernel)) ggX4_firstError_X4_findError
theorem dX4_firstError_0 : decode cX4_firstError 0 = .ok (.aload_n 0, 1) := by decide +kernel
theorem dX4_firstError_1 : decode cX4_firstError 1 = .ok (.iconst 0, 1) := by decide +kernel
theorem dX4_firstError_2 : decode cX4_firstError 2 = .ok (.putfield 25, 3) := by decide +kernel
theorem dX4_firstError_5 : decode cX4_firstError 5 = .ok (.aload_n 0, 1) := by decide +kernel
theorem dX4_firstError_6 : decode cX4_firstError 6 = .ok (.invokevirtual 144, 3) := by decide +kernel
theorem dX4_firstError_9 : decode cX4_firstError 9 = .ok (.istore_n 1, 1) := by decide +kernel
theorem dX4_firstError_10 : decode cX4_firstError 10 = .ok (.iload_n 1, 1) := by decide +kernel
theorem dX4_firstError_11 : decode cX4_firstError 11 = .ok (.ifCond .ge 10, 3) := by decide +kernel
theorem dX4_firstError_14 : decode cX4_firstError 14 = .ok (.aload_n 0, 1) := by decide +kernel
theorem dX4_firstError_15 : decode cX4_firstError 15 = .ok (.getfield 118, 3) := by decide +kernel
theorem dX4_firstError_18 : decode cX4_firstError 18 = .ok (.goto 4, 3) := by decide +kernel
theorem dX4_firstError_21 : decode cX4_firstError 21 = .ok (.iload_n 1, 1) := by decide +kernel
theorem dX4_firstError_22 : decode cX4_firstError 22 = .ok (.ireturn, 1) := by decide +kernel
set_option maxRecDepth 20000 in
theorem ggX4_whyNoPart_X4_isDove : GoodIn wsX4_whyNoPart wsX4_isDove := goodIn_r _ [8, 9, 10, 7, 11, 12, 13, 14, 15, 16, 49, 50, 51, 52, 53, 54, 55, 56, 57, 58, 59, 60] (by decide +kernel) (by decide +kernel)
set_option maxRecDepth 20000 in
theorem gX4_whyNoPart_X4_isDove : GoodIn wsX4_whyNoPart (wsV RX4 37 RX4 yX4_isDove wsX4_isDove) := goodIn_app (goodIn_of _ (by decide +kernel)) ggX4_whyNoPart_X4_isDove
set_option maxRecDepth 20000 in
theorem ggX4_whyNoPart_X4_whyNoHome : GoodIn wsX4_whyNoPart wsX4_whyNoHome := goodIn_r _ [20, 16, 12, 13, 14, 7, 15, 49, 50, 51, 52, 53, 54, 55, 56, 57, 58, 59, 60] (by decide +kernel) (by decide +kernel)
set_option maxRecDepth 20000 in
theorem gX4_whyNoPart_X4_whyNoHome : GoodIn wsX4_whyNoPart (wsV RX4 78 RX4 yX4_whyNoHome wsX4_whyNoHome) := goodIn_app (goodIn_of _ (by decide +kernel)) ggX4_whyNoPart_X4_whyNoHome
set_option maxRecDepth 20000 in
theorem ggX4_whyNoPart_X4_whyNoDove : GoodIn wsX4_whyNoPart wsX4_whyNoDove := goodIn_r _ [24, 25, 26, 27, 7, 28, 12, 13, 14, 15, 16, 29, 30, 31, 32, 4, 5, 6, 8, 9, 10, 11, 33, 34, 35, 36, 49, 50, 51, 52, 53, 54, 55, 56, 57, 58, 59, 60] (by decide +kernel) (by decide +kernel)
set_option maxRecDepth 20000 in
theorem gX4_whyNoPart_X4_whyNoDove : GoodIn wsX4_whyNoPart (wsV RX4 97 RX4 yX4_whyNoDove wsX4_whyNoDove) := goodIn_app (goodIn_of _ (by decide +kernel)) ggX4_whyNoPart_X4_whyNoDove
set_option maxRecDepth 20000 in
theorem ggX4_whyNoPart_X4_whyNoMates : GoodIn wsX4_whyNoPart wsX4_whyNoMates := goodIn_r _ [40, 12, 13, 14, 7, 15, 16, 49, 50, 51, 52, 53, 54, 55, 56, 57, 58, 59, 60] (by decide +kernel) (by decide +kernel)
set_option maxRecDepth 20000 in
theorem gX4_whyNoPart_X4_whyNoMates : GoodIn wsX4_whyNoPart (wsV RX4 106 RX4 yX4_whyNoMates wsX4_whyNoMates) := goodIn_app (goodIn_of _ (by decide +kernel)) ggX4_whyNoPart_X4_whyNoMates
set_option maxRecDepth 20000 in
theorem ggX4_whyNoPart_X4_whyNoShut : GoodIn wsX4_whyNoPart wsX4_whyNoShut := goodIn_r _ [44, 45, 46, 47, 7, 48, 4, 5, 6, 8, 9, 10, 11, 12, 13, 14, 15, 16, 33, 34, 35, 36, 49, 50, 51, 52, 53, 54, 55, 56, 57, 58, 59, 60] (by decide +kernel) (by decide +kernel)
set_option maxRecDepth 20000 in
theorem gX4_whyNoPart_X4_whyNoShut : GoodIn wsX4_whyNoPart (wsV RX4 112 RX4 yX4_whyNoShut wsX4_whyNoShut) := goodIn_app (goodIn_of _ (by decide +kernel)) ggX4_whyNoPart_X4_whyNoShut
theorem dX4_whyNoPart_0 : decode cX4_whyNoPart 0 = .ok (.aload_n 0, 1) := by decide +kernel
theorem dX4_whyNoPart_1 : decode cX4_whyNoPart 1 = .ok (.getfield 134, 3) := by decide +kernel
theorem dX4_whyNoPart_4 : decode cX4_whyNoPart 4 = .ok (.lookupswitch 131 #[(98, 73), (104, 44), (109, 82), (120, 122)], 44) := by decide +kernel
theorem dX4_whyNoPart_48 : decode cX4_whyNoPart 48 = .ok (.aload_n 0, 1) := by decide +kernel
theorem dX4_whyNoPart_49 : decode cX4_whyNoPart 49 = .ok (.aload_n 0, 1) := by decide +kernel
theorem dX4_whyNoPart_50 : decode cX4_whyNoPart 50 = .ok (.getfield 131, 3) := by decide +kernel
theorem dX4_whyNoPart_53 : decode cX4_whyNoPart 53 = .ok (.invokevirtual 37, 3) := by decide +kernel
theorem dX4_whyNoPart_56 : decode cX4_whyNoPart 56 = .ok (.ifCond .eq 18, 3) := by decide +kernel
theorem dX4_whyNoPart_59 : decode cX4_whyNoPart 59 = .ok (.aload_n 0, 1) := by decide +kernel
theorem dX4_whyNoPart_60 : decode cX4_whyNoPart 60 = .ok (.aload_n 0, 1) := by decide +kernel
theorem dX4_whyNoPart_61 : decode cX4_whyNoPart 61 = .ok (.getfield 131, 3) := by decide +kernel
theorem dX4_whyNoPart_64 : decode cX4_whyNoPart 64 = .ok (.aload_n 0, 1) := by decide +kernel
theorem dX4_whyNoPart_65 : decode cX4_whyNoPart 65 = .ok (.getfield 124, 3) := by decide +kernel
theorem dX4_whyNoPart_68 : decode cX4_whyNoPart 68 = .ok (.invokevirtual 78, 3) := by decide +kernel
theorem dX4_whyNoPart_71 : decode cX4_whyNoPart 71 = .ok (.goto 5, 3) := by decide +kernel
theorem dX4_whyNoPart_74 : decode cX4_whyNoPart 74 = .ok (.bipush 10, 2) := by decide +kernel
theorem dX4_whyNoPart_76 : decode cX4_whyNoPart 76 = .ok (.ireturn, 1) := by decide +kernel
theorem dX4_whyNoPart_77 : decode cX4_whyNoPart 77 = .ok (.aload_n 0, 1) := by decide +kernel
theorem dX4_whyNoPart_78 : decode cX4_whyNoPart 78 = .ok (.aload_n 0, 1) := by decide +kernel
theorem dX4_whyNoPart_79 : decode cX4_whyNoPart 79 = .ok (.getfield 131, 3) := by decide +kernel
theorem dX4_whyNoPart_82 : decode cX4_whyNoPart 82 = .ok (.invokevirtual 97, 3) := by decide +kernel
theorem dX4_whyNoPart_85 : decode cX4_whyNoPart 85 = .ok (.ireturn, 1) := by decide +kernel
theorem dX4_whyNoPart_86 : decode cX4_whyNoPart 86 = .ok (.aload_n 0, 1) := by decide +kernel
theorem dX4_whyNoPart_87 : decode cX4_whyNoPart 87 = .ok (.aload_n 0, 1) := by decide +kernel
theorem dX4_whyNoPart_88 : decode cX4_whyNoPart 88 = .ok (.getfield 131, 3) := by decide +kernel
theorem dX4_whyNoPart_91 : decode cX4_whyNoPart 91 = .ok (.invokevirtual 37, 3) := by decide +kernel
theorem dX4_whyNoPart_94 : decode cX4_whyNoPart 94 = .ok (.ifCond .eq 29, 3) := by decide +kernel
theorem dX4_whyNoPart_97 : decode cX4_whyNoPart 97 = .ok (.aload_n 0, 1) := by decide +kernel
theorem dX4_whyNoPart_98 : decode cX4_whyNoPart 98 = .ok (.aload_n 0, 1) := by decide +kernel
theorem dX4_whyNoPart_99 : decode cX4_whyNoPart 99 = .ok (.getfield 124, 3) := by decide +kernel
theorem dX4_whyNoPart_102 : decode cX4_whyNoPart 102 = .ok (.invokevirtual 37, 3) := by decide +kernel
theorem dX4_whyNoPart_105 : decode cX4_whyNoPart 105 = .ok (.ifCond .eq 18, 3) := by decide +kernel
theorem dX4_whyNoPart_108 : decode cX4_whyNoPart 108 = .ok (.aload_n 0, 1) := by decide +kernel
theorem dX4_whyNoPart_109 : decode cX4_whyNoPart 109 = .ok (.aload_n 0, 1) := by decide +kernel
theorem dX4_whyNoPart_110 : decode cX4_whyNoPart 110 = .ok (.getfield 131, 3) := by decide +kernel
theorem dX4_whyNoPart_113 : decode cX4_whyNoPart 113 = .ok (.aload_n 0, 1) := by decide +kernel
theorem dX4_whyNoPart_114 : decode cX4_whyNoPart 114 = .ok (.getfield 124, 3) := by decide +kernel
theorem dX4_whyNoPart_117 : decode cX4_whyNoPart 117 = .ok (.invokevirtual 106, 3) := by decide +kernel
theorem dX4_whyNoPart_120 : decode cX4_whyNoPart 120 = .ok (.goto 5, 3) := by decide +kernel
theorem dX4_whyNoPart_123 : decode cX4_whyNoPart 123 = .ok (.bipush 10, 2) := by decide +kernel
theorem dX4_whyNoPart_125 : decode cX4_whyNoPart 125 = .ok (.ireturn, 1) := by decide +kernel
theorem dX4_whyNoPart_126 : decode cX4_whyNoPart 126 = .ok (.aload_n 0, 1) := by decide +kernel
theorem dX4_whyNoPart_127 : decode cX4_whyNoPart 127 = .ok (.aload_n 0, 1) := by decide +kernel
theorem dX4_whyNoPart_128 : decode cX4_whyNoPart 128 = .ok (.getfield 124, 3) := by decide +kernel
theorem dX4_whyNoPart_131 : decode cX4_whyNoPart 131 = .ok (.invokevirtual 112, 3) := by decide +kernel
theorem dX4_whyNoPart_134 : decode cX4_whyNoPart 134 = .ok (.ireturn, 1) := by decide +kernel
theorem dX4_whyNoPart_135 : decode cX4_whyNoPart 135 = .ok (.iconst 0, 1) := by decide +kernel
theorem dX4_whyNoPart_136 : decode cX4_whyNoPart 136 = .ok (.ireturn, 1) := by decide +kernel
set_option maxRecDepth 20000 in
theorem ggX4_doPart_X4_doHome : GoodIn wsX4_doPart wsX4_doHome := goodIn_r _ [9, 4, 10, 11, 12, 8, 13, 14, 15, 16, 17, 18, 19, 20, 21, 22, 23, 24, 25, 26, 27, 28, 29, 30, 31, 32, 33, 34, 35, 36, 37, 38, 39, 40, 41, 42, 43, 44, 45, 46, 47, 48, 49, 50, 51, 72, 73, 74, 75, 76, 77, 78, 79, 80, 81, 82, 83] (by decide +kernel) (by decide +kernel)
set_option maxRecDepth 20000 in
theorem gX4_doPart_X4_doHome : GoodIn wsX4_doPart (wsV RX4 81 RX4 yX4_doHome wsX4_doHome) := goodIn_app (goodIn_of _ (by decide +kernel)) ggX4_doPart_X4_doHome
set_option maxRecDepth 20000 in
theorem ggX4_doPart_X4_doBuy : GoodIn wsX4_doPart wsX4_doBuy := goodIn_r _ [55, 26, 27, 28, 8, 29, 30, 31, 32, 10, 11, 12, 13, 4, 14, 15, 16, 17, 72, 73, 74, 75, 76, 77, 78, 79, 80, 81, 82, 83] (by decide +kernel) (by decide +kernel)
set_option maxRecDepth 20000 in
theorem gX4_doPart_X4_doBuy : GoodIn wsX4_doPart (wsV RX4 100 RX4 yX4_doBuy wsX4_doBuy) := goodIn_app (goodIn_of _ (by decide +kernel)) ggX4_doPart_X4_doBuy
set_option maxRecDepth 20000 in
theorem ggX4_doPart_X4_doMate : GoodIn wsX4_doPart wsX4_doMate := goodIn_r _ [59, 14, 15, 16, 8, 17, 4, 60, 61, 62, 63, 26, 27, 28, 29, 30, 31, 32, 10, 11, 12, 13, 72, 73, 74, 75, 76, 77, 78, 79, 80, 81, 82, 83] (by decide +kernel) (by decide +kernel)
set_option maxRecDepth 20000 in
theorem gX4_doPart_X4_doMate : GoodIn wsX4_doPart (wsV RX4 109 RX4 yX4_doMate wsX4_doMate) := goodIn_app (goodIn_of _ (by decide +kernel)) ggX4_doPart_X4_doMate
set_option maxRecDepth 20000 in
theorem ggX4_doPart_X4_doDawn : GoodIn wsX4_doPart wsX4_doDawn := goodIn_r _ [67, 4, 68, 69, 70, 8, 71, 26, 27, 28, 29, 30, 31, 32, 10, 11, 12, 13, 14, 15, 16, 17, 72, 73, 74, 75, 76, 77, 78, 79, 80, 81, 82, 83] (by decide +kernel) (by decide +kernel)
set_option maxRecDepth 20000 in
theorem gX4_doPart_X4_doDawn : GoodIn wsX4_doPart (wsV RX4 87 RX4 yX4_doDawn wsX4_doDawn) := goodIn_app (goodIn_of _ (by decide +kernel)) ggX4_doPart_X4_doDawn
theorem dX4_doPart_0 : decode cX4_doPart 0 = .ok (.aload_n 0, 1) := by decide +kernel
theorem dX4_doPart_1 : decode cX4_doPart 1 = .ok (.getfield 134, 3) := by decide +kernel
theorem dX4_doPart_4 : decode cX4_doPart 4 = .ok (.lookupswitch 120 #[(98, 65), (104, 52), (109, 78), (111, 91), (120, 91)], 52) := by decide +kernel
theorem dX4_doPart_56 : decode cX4_doPart 56 = .ok (.aload_n 0, 1) := by decide +kernel
theorem dX4_doPart_57 : decode cX4_doPart 57 = .ok (.aload_n 0, 1) := by decide +kernel
theorem dX4_doPart_58 : decode cX4_doPart 58 = .ok (.getfield 131, 3) := by decide +kernel
theorem dX4_doPart_61 : decode cX4_doPart 61 = .ok (.aload_n 0, 1) := by decide +kernel
theorem dX4_doPart_62 : decode cX4_doPart 62 = .ok (.getfield 124, 3) := by decide +kernel
theorem dX4_doPart_65 : decode cX4_doPart 65 = .ok (.invokevirtual 81, 3) := by decide +kernel
theorem dX4_doPart_68 : decode cX4_doPart 68 = .ok (.ireturn, 1) := by decide +kernel
theorem dX4_doPart_69 : decode cX4_doPart 69 = .ok (.aload_n 0, 1) := by decide +kernel
theorem dX4_doPart_70 : decode cX4_doPart 70 = .ok (.aload_n 0, 1) := by decide +kernel
theorem dX4_doPart_71 : decode cX4_doPart 71 = .ok (.getfield 131, 3) := by decide +kernel
theorem dX4_doPart_74 : decode cX4_doPart 74 = .ok (.aload_n 0, 1) := by decide +kernel
theorem dX4_doPart_75 : decode cX4_doPart 75 = .ok (.getfield 124, 3) := by decide +kernel
theorem dX4_doPart_78 : decode cX4_doPart 78 = .ok (.invokevirtual 100, 3) := by decide +kernel
theorem dX4_doPart_81 : decode cX4_doPart 81 = .ok (.ireturn, 1) := by decide +kernel
theorem dX4_doPart_82 : decode cX4_doPart 82 = .ok (.aload_n 0, 1) := by decide +kernel
theorem dX4_doPart_83 : decode cX4_doPart 83 = .ok (.aload_n 0, 1) := by decide +kernel
theorem dX4_doPart_84 : decode cX4_doPart 84 = .ok (.getfield 131, 3) := by decide +kernel
theorem dX4_doPart_87 : decode cX4_doPart 87 = .ok (.aload_n 0, 1) := by decide +kernel
theorem dX4_doPart_88 : decode cX4_doPart 88 = .ok (.getfield 124, 3) := by decide +kernel
theorem dX4_doPart_91 : decode cX4_doPart 91 = .ok (.invokevirtual 109, 3) := by decide +kernel
theorem dX4_doPart_94 : decode cX4_doPart 94 = .ok (.ireturn, 1) := by decide +kernel
theorem dX4_doPart_95 : decode cX4_doPart 95 = .ok (.aload_n 0, 1) := by decide +kernel
theorem dX4_doPart_96 : decode cX4_doPart 96 = .ok (.getfield 7, 3) := by decide +kernel
theorem dX4_doPart_99 : decode cX4_doPart 99 = .ok (.sipush 144, 3) := by decide +kernel
theorem dX4_doPart_102 : decode cX4_doPart 102 = .ok (.aload_n 0, 1) := by decide +kernel
theorem dX4_doPart_103 : decode cX4_doPart 103 = .ok (.getfield 124, 3) := by decide +kernel
theorem dX4_doPart_106 : decode cX4_doPart 106 = .ok (.iadd, 1) := by decide +kernel
theorem dX4_doPart_107 : decode cX4_doPart 107 = .ok (.aload_n 0, 1) := by decide +kernel
theorem dX4_doPart_108 : decode cX4_doPart 108 = .ok (.getfield 134, 3) := by decide +kernel
theorem dX4_doPart_111 : decode cX4_doPart 111 = .ok (.bipush 120, 2) := by decide +kernel
theorem dX4_doPart_113 : decode cX4_doPart 113 = .ok (.if_icmp .ne 7, 3) := by decide +kernel
theorem dX4_doPart_116 : decode cX4_doPart 116 = .ok (.iconst 1, 1) := by decide +kernel
theorem dX4_doPart_117 : decode cX4_doPart 117 = .ok (.goto 4, 3) := by decide +kernel
theorem dX4_doPart_120 : decode cX4_doPart 120 = .ok (.iconst 0, 1) := by decide +kernel
theorem dX4_doPart_121 : decode cX4_doPart 121 = .ok (.iastore, 1) := by decide +kernel
theorem dX4_doPart_122 : decode cX4_doPart 122 = .ok (.iconst 0, 1) := by decide +kernel
theorem dX4_doPart_123 : decode cX4_doPart 123 = .ok (.ireturn, 1) := by decide +kernel
theorem dX4_doPart_124 : decode cX4_doPart 124 = .ok (.aload_n 0, 1) := by decide +kernel
theorem dX4_doPart_125 : decode cX4_doPart 125 = .ok (.invokevirtual 87, 3) := by decide +kernel
theorem dX4_doPart_128 : decode cX4_doPart 128 = .ok (.ireturn, 1) := by decide +kernel
set_option maxRecDepth 20000 in
theorem ggX4_pass_X4_findError : GoodIn wsX4_pass wsX4_findError := goodIn_r _ [8, 3, 9, 10, 11, 12, 7, 13, 14, 15, 16, 17, 18, 19, 20, 21, 22, 23, 24, 25, 26, 27, 28, 29, 30, 31, 133, 134, 135, 136, 137, 138, 139, 140, 141, 142, 143, 144] (by decide +kernel) (by decide +kernel)
set_option maxRecDepth 20000 in
theorem gX4_pass_X4_findError : GoodIn wsX4_pass (wsV RX4 144 RX4 yX4_findError wsX4_findError) := goodIn_app (goodIn_of _ (by decide +kernel)) ggX4_pass_X4_findError
set_option maxRecDepth 20000 in
theorem ggX4_pass_X4_record : GoodIn wsX4_pass wsX4_record := goodIn_r _ [35, 36, 37, 2, 133, 134, 135, 136, 137, 138, 139, 140, 141, 142, 143, 144] (by decide +kernel) (by decide +kernel)
set_option maxRecDepth 20000 in
theorem gX4_pass_X4_record : GoodIn wsX4_pass (wsV RX4 51 RX4 yX4_record wsX4_record) := goodIn_app (goodIn_of _ (by decide +kernel)) ggX4_pass_X4_record
set_option maxRecDepth 20000 in
theorem ggX4_pass_X4_readPart : GoodIn wsX4_pass wsX4_readPart := goodIn_r _ [13, 14, 15, 16, 17, 7, 18, 3, 9, 19, 20, 21, 22, 23, 24, 25, 26, 27, 28, 29, 30, 31, 133, 134, 135, 136, 137, 138, 139, 140, 141, 142, 143, 144] (by decide +kernel) (by decide +kernel)
set_option maxRecDepth 20000 in
theorem gX4_pass_X4_readPart : GoodIn wsX4_pass (wsV RX4 141 RX4 yX4_readPart wsX4_readPart) := goodIn_app (goodIn_of _ (by decide +kernel)) ggX4_pass_X4_readPart
set_option maxRecDepth 20000 in
theorem ggX4_pass_X4_whyNoPart : GoodIn wsX4_pass wsX4_whyNoPart := goodIn_r _ [41, 14, 24, 23, 42, 43, 44, 7, 45, 29, 30, 31, 46, 47, 48, 49, 2, 50, 51, 52, 53, 54, 55, 56, 57, 58, 59, 60, 61, 62, 63, 64, 65, 66, 67, 68, 69, 70, 71, 72, 73, 74, 75, 76, 77, 78, 79, 80, 81, 133, 134, 135, 136, 137, 138, 139, 140, 141, 142, 143, 144] (by decide +kernel) (by decide +kernel)
set_option maxRecDepth 20000 in
theorem gX4_pass_X4_whyNoPart : GoodIn wsX4_pass (wsV RX4 147 RX4 yX4_whyNoPart wsX4_whyNoPart) := goodIn_app (goodIn_of _ (by decide +kernel)) ggX4_pass_X4_whyNoPart
set_option maxRecDepth 20000 in
theorem ggX4_pass_X4_doPart : GoodIn wsX4_pass wsX4_doPart := goodIn_r _ [85, 14, 24, 23, 2, 86, 87, 88, 7, 89, 46, 47, 48, 49, 90, 91, 92, 93, 66, 67, 68, 69, 78, 79, 80, 81, 42, 43, 44, 45, 29, 30, 31, 94, 95, 96, 97, 98, 99, 100, 101, 102, 103, 104, 105, 106, 107, 108, 109, 110, 111, 112, 113, 114, 115, 116, 117, 118, 119, 120, 121, 122, 123, 124, 125, 126, 127, 128, 129, 130, 131, 132, 133, 134, 135, 136, 137, 138, 139, 140, 141, 142, 143, 144] (by decide +kernel) (by decide +kernel)
set_option maxRecDepth 20000 in
theorem gX4_pass_X4_doPart : GoodIn wsX4_pass (wsV RX4 150 RX4 yX4_doPart wsX4_doPart) := goodIn_app (goodIn_of _ (by decide +kernel)) ggX4_pass_X4_doPart
theorem dX4_pass_0 : decode cX4_pass 0 = .ok (.aload_n 0, 1) := by decide +kernel
theorem dX4_pass_1 : decode cX4_pass 1 = .ok (.aload_n 0, 1) := by decide +kernel
theorem dX4_pass_2 : decode cX4_pass 2 = .ok (.invokevirtual 144, 3) := by decide +kernel
theorem dX4_pass_5 : decode cX4_pass 5 = .ok (.ifCond .ge 7, 3) := by decide +kernel
theorem dX4_pass_8 : decode cX4_pass 8 = .ok (.iconst 0, 1) := by decide +kernel
theorem dX4_pass_9 : decode cX4_pass 9 = .ok (.goto 4, 3) := by decide +kernel
theorem dX4_pass_12 : decode cX4_pass 12 = .ok (.iconst 1, 1) := by decide +kernel
theorem dX4_pass_13 : decode cX4_pass 13 = .ok (.putfield 25, 3) := by decide +kernel
theorem dX4_pass_16 : decode cX4_pass 16 = .ok (.aload_n 0, 1) := by decide +kernel
theorem dX4_pass_17 : decode cX4_pass 17 = .ok (.getfield 25, 3) := by decide +kernel
theorem dX4_pass_20 : decode cX4_pass 20 = .ok (.ifCond .le 5, 3) := by decide +kernel
theorem dX4_pass_23 : decode cX4_pass 23 = .ok (.iconst 0, 1) := by decide +kernel
theorem dX4_pass_24 : decode cX4_pass 24 = .ok (.ireturn, 1) := by decide +kernel
theorem dX4_pass_25 : decode cX4_pass 25 = .ok (.aload_n 0, 1) := by decide +kernel
theorem dX4_pass_26 : decode cX4_pass 26 = .ok (.invokevirtual 51, 3) := by decide +kernel
theorem dX4_pass_29 : decode cX4_pass 29 = .ok (.aload_n 0, 1) := by decide +kernel
theorem dX4_pass_30 : decode cX4_pass 30 = .ok (.getfield 7, 3) := by decide +kernel
theorem dX4_pass_33 : decode cX4_pass 33 = .ok (.sipush 178, 3) := by decide +kernel
theorem dX4_pass_36 : decode cX4_pass 36 = .ok (.iconst (-1), 1) := by decide +kernel
theorem dX4_pass_37 : decode cX4_pass 37 = .ok (.iastore, 1) := by decide +kernel
theorem dX4_pass_38 : decode cX4_pass 38 = .ok (.aload_n 0, 1) := by decide +kernel
theorem dX4_pass_39 : decode cX4_pass 39 = .ok (.getfield 7, 3) := by decide +kernel
theorem dX4_pass_42 : decode cX4_pass 42 = .ok (.sipush 179, 3) := by decide +kernel
theorem dX4_pass_45 : decode cX4_pass 45 = .ok (.iconst (-1), 1) := by decide +kernel
theorem dX4_pass_46 : decode cX4_pass 46 = .ok (.iastore, 1) := by decide +kernel
theorem dX4_pass_47 : decode cX4_pass 47 = .ok (.iconst 0, 1) := by decide +kernel
theorem dX4_pass_48 : decode cX4_pass 48 = .ok (.istore_n 1, 1) := by decide +kernel
theorem dX4_pass_49 : decode cX4_pass 49 = .ok (.iconst 0, 1) := by decide +kernel
theorem dX4_pass_50 : decode cX4_pass 50 = .ok (.istore_n 2, 1) := by decide +kernel
theorem dX4_pass_51 : decode cX4_pass 51 = .ok (.iconst 1, 1) := by decide +kernel
theorem dX4_pass_52 : decode cX4_pass 52 = .ok (.istore_n 3, 1) := by decide +kernel
theorem dX4_pass_53 : decode cX4_pass 53 = .ok (.iload_n 3, 1) := by decide +kernel
theorem dX4_pass_54 : decode cX4_pass 54 = .ok (.ifCond .eq 73, 3) := by decide +kernel
theorem dX4_pass_57 : decode cX4_pass 57 = .ok (.iload_n 2, 1) := by decide +kernel
theorem dX4_pass_58 : decode cX4_pass 58 = .ok (.aload_n 0, 1) := by decide +kernel
theorem dX4_pass_59 : decode cX4_pass 59 = .ok (.getfield 118, 3) := by decide +kernel
theorem dX4_pass_62 : decode cX4_pass 62 = .ok (.if_icmp .ge 65, 3) := by decide +kernel
theorem dX4_pass_65 : decode cX4_pass 65 = .ok (.aload_n 0, 1) := by decide +kernel
theorem dX4_pass_66 : decode cX4_pass 66 = .ok (.iload_n 2, 1) := by decide +kernel
theorem dX4_pass_67 : decode cX4_pass 67 = .ok (.invokevirtual 141, 3) := by decide +kernel
theorem dX4_pass_70 : decode cX4_pass 70 = .ok (.iconst 1, 1) := by decide +kernel
theorem dX4_pass_71 : decode cX4_pass 71 = .ok (.iadd, 1) := by decide +kernel
theorem dX4_pass_72 : decode cX4_pass 72 = .ok (.istore_n 2, 1) := by decide +kernel
theorem dX4_pass_73 : decode cX4_pass 73 = .ok (.aload_n 0, 1) := by decide +kernel
theorem dX4_pass_74 : decode cX4_pass 74 = .ok (.invokevirtual 147, 3) := by decide +kernel
theorem dX4_pass_77 : decode cX4_pass 77 = .ok (.istore 4, 2) := by decide +kernel
theorem dX4_pass_79 : decode cX4_pass 79 = .ok (.iload 4, 2) := by decide +kernel
theorem dX4_pass_81 : decode cX4_pass 81 = .ok (.ifCond .ne 7, 3) := by decide +kernel
theorem dX4_pass_84 : decode cX4_pass 84 = .ok (.iconst 1, 1) := by decide +kernel
theorem dX4_pass_85 : decode cX4_pass 85 = .ok (.goto 4, 3) := by decide +kernel
theorem dX4_pass_88 : decode cX4_pass 88 = .ok (.iconst 0, 1) := by decide +kernel
theorem dX4_pass_89 : decode cX4_pass 89 = .ok (.istore_n 3, 1) := by decide +kernel
theorem dX4_pass_90 : decode cX4_pass 90 = .ok (.iload_n 3, 1) := by decide +kernel
theorem dX4_pass_91 : decode cX4_pass 91 = .ok (.ifCond .eq 14, 3) := by decide +kernel
theorem dX4_pass_94 : decode cX4_pass 94 = .ok (.aload_n 0, 1) := by decide +kernel
theorem dX4_pass_95 : decode cX4_pass 95 = .ok (.invokevirtual 150, 3) := by decide +kernel
theorem dX4_pass_98 : decode cX4_pass 98 = .ok (.pop, 1) := by decide +kernel
theorem dX4_pass_99 : decode cX4_pass 99 = .ok (.iinc 1 1, 3) := by decide +kernel
theorem dX4_pass_102 : decode cX4_pass 102 = .ok (.goto 22, 3) := by decide +kernel
theorem dX4_pass_105 : decode cX4_pass 105 = .ok (.aload_n 0, 1) := by decide +kernel
theorem dX4_pass_106 : decode cX4_pass 106 = .ok (.getfield 7, 3) := by decide +kernel
theorem dX4_pass_109 : decode cX4_pass 109 = .ok (.sipush 178, 3) := by decide +kernel
theorem dX4_pass_112 : decode cX4_pass 112 = .ok (.iload_n 1, 1) := by decide +kernel
theorem dX4_pass_113 : decode cX4_pass 113 = .ok (.iastore, 1) := by decide +kernel
theorem dX4_pass_114 : decode cX4_pass 114 = .ok (.aload_n 0, 1) := by decide +kernel
theorem dX4_pass_115 : decode cX4_pass 115 = .ok (.getfield 7, 3) := by decide +kernel
theorem dX4_pass_118 : decode cX4_pass 118 = .ok (.sipush 179, 3) := by decide +kernel
theorem dX4_pass_121 : decode cX4_pass 121 = .ok (.iload 4, 2) := by decide +kernel
theorem dX4_pass_123 : decode cX4_pass 123 = .ok (.iastore, 1) := by decide +kernel
theorem dX4_pass_124 : decode cX4_pass 124 = .ok (.goto (-71), 3) := by decide +kernel
theorem dX4_pass_127 : decode cX4_pass 127 = .ok (.aload_n 0, 1) := by decide +kernel
theorem dX4_pass_128 : decode cX4_pass 128 = .ok (.iconst 0, 1) := by decide +kernel
theorem dX4_pass_129 : decode cX4_pass 129 = .ok (.putfield 118, 3) := by decide +kernel
theorem dX4_pass_132 : decode cX4_pass 132 = .ok (.iload_n 1, 1) := by decide +kernel
theorem dX4_pass_133 : decode cX4_pass 133 = .ok (.ireturn, 1) := by decide +kernel
set_option maxRecDepth 20000 in
theorem ggX4_stopped_X4_in : GoodIn wsX4_stopped wsX4_in := goodIn_r _ [6] (by decide +kernel) (by decide +kernel)
set_option maxRecDepth 20000 in
theorem gX4_stopped_X4_in : GoodIn wsX4_stopped (va_wsS RX4 29 yX4_in wsX4_in) := goodIn_app (goodIn_of _ (by decide +kernel)) ggX4_stopped_X4_in
theorem dX4_stopped_0 : decode cX4_stopped 0 = .ok (.aload_n 0, 1) := by decide +kernel
theorem dX4_stopped_1 : decode cX4_stopped 1 = .ok (.iload_n 1, 1) := by decide +kernel
theorem dX4_stopped_2 : decode cX4_stopped 2 = .ok (.iconst 0, 1) := by decide +kernel
theorem dX4_stopped_3 : decode cX4_stopped 3 = .ok (.iconst 1, 1) := by decide +kernel
theorem dX4_stopped_4 : decode cX4_stopped 4 = .ok (.invokestatic 29, 3) := by decide +kernel
theorem dX4_stopped_7 : decode cX4_stopped 7 = .ok (.ifCond .eq 7, 3) := by decide +kernel
theorem dX4_stopped_10 : decode cX4_stopped 10 = .ok (.iconst 0, 1) := by decide +kernel
theorem dX4_stopped_11 : decode cX4_stopped 11 = .ok (.goto 4, 3) := by decide +kernel
theorem dX4_stopped_14 : decode cX4_stopped 14 = .ok (.iconst 1, 1) := by decide +kernel
theorem dX4_stopped_15 : decode cX4_stopped 15 = .ok (.putfield 25, 3) := by decide +kernel
theorem dX4_stopped_18 : decode cX4_stopped 18 = .ok (.aload_n 0, 1) := by decide +kernel
theorem dX4_stopped_19 : decode cX4_stopped 19 = .ok (.getfield 25, 3) := by decide +kernel
theorem dX4_stopped_22 : decode cX4_stopped 22 = .ok (.ifCond .le 7, 3) := by decide +kernel
theorem dX4_stopped_25 : decode cX4_stopped 25 = .ok (.iconst 0, 1) := by decide +kernel
theorem dX4_stopped_26 : decode cX4_stopped 26 = .ok (.goto 13, 3) := by decide +kernel
theorem dX4_stopped_29 : decode cX4_stopped 29 = .ok (.aload_n 0, 1) := by decide +kernel
theorem dX4_stopped_30 : decode cX4_stopped 30 = .ok (.getfield 7, 3) := by decide +kernel
theorem dX4_stopped_33 : decode cX4_stopped 33 = .ok (.sipush 178, 3) := by decide +kernel
theorem dX4_stopped_36 : decode cX4_stopped 36 = .ok (.iload_n 1, 1) := by decide +kernel
theorem dX4_stopped_37 : decode cX4_stopped 37 = .ok (.iadd, 1) := by decide +kernel
theorem dX4_stopped_38 : decode cX4_stopped 38 = .ok (.iaload, 1) := by decide +kernel
theorem dX4_stopped_39 : decode cX4_stopped 39 = .ok (.ireturn, 1) := by decide +kernel
set_option maxRecDepth 20000 in
theorem ggX4_doveNow_X4_of : GoodIn wsX4_doveNow wsX4_of := goodIn_r _ [5, 6, 7, 8, 9, 10, 11, 12, 13, 14, 15, 16, 17, 18] (by decide +kernel) (by decide +kernel)
set_option maxRecDepth 20000 in
theorem gX4_doveNow_X4_of : GoodIn wsX4_doveNow (wsV RX4 33 RX4 yX4_of wsX4_of) := goodIn_app (goodIn_of _ (by decide +kernel)) ggX4_doveNow_X4_of
theorem dX4_doveNow_0 : decode cX4_doveNow 0 = .ok (.aload_n 0, 1) := by decide +kernel
theorem dX4_doveNow_1 : decode cX4_doveNow 1 = .ok (.iload_n 1, 1) := by decide +kernel
theorem dX4_doveNow_2 : decode cX4_doveNow 2 = .ok (.iconst 1, 1) := by decide +kernel
theorem dX4_doveNow_3 : decode cX4_doveNow 3 = .ok (.iload_n 2, 1) := by decide +kernel
theorem dX4_doveNow_4 : decode cX4_doveNow 4 = .ok (.iadd, 1) := by decide +kernel
theorem dX4_doveNow_5 : decode cX4_doveNow 5 = .ok (.invokevirtual 33, 3) := by decide +kernel
theorem dX4_doveNow_8 : decode cX4_doveNow 8 = .ok (.ireturn, 1) := by decide +kernel
set_option maxRecDepth 20000 in
theorem ggX4_dove_X4_isDove : GoodIn wsX4_dove wsX4_isDove := goodIn_r _ [6, 7, 8, 5, 9, 10, 11, 12, 13, 14, 19, 20, 21, 22, 23, 24, 25, 26, 27, 28, 29, 30] (by decide +kernel) (by decide +kernel)
set_option maxRecDepth 20000 in
theorem gX4_dove_X4_isDove : GoodIn wsX4_dove (wsV RX4 37 RX4 yX4_isDove wsX4_isDove) := goodIn_app (goodIn_of _ (by decide +kernel)) ggX4_dove_X4_isDove
set_option maxRecDepth 20000 in
theorem ggX4_dove_X4_in : GoodIn wsX4_dove wsX4_in := goodIn_r _ [9] (by decide +kernel) (by decide +kernel)
set_option maxRecDepth 20000 in
theorem gX4_dove_X4_in : GoodIn wsX4_dove (va_wsS RX4 29 yX4_in wsX4_in) := goodIn_app (goodIn_of _ (by decide +kernel)) ggX4_dove_X4_in
set_option maxRecDepth 20000 in
theorem ggX4_dove_X4_doveNow : GoodIn wsX4_dove wsX4_doveNow := goodIn_r _ [18, 10, 11, 12, 5, 13, 14, 19, 20, 21, 22, 23, 24, 25, 26, 27, 28, 29, 30] (by decide +kernel) (by decide +kernel)
set_option maxRecDepth 20000 in
theorem gX4_dove_X4_doveNow : GoodIn wsX4_dove (wsV RX4 153 RX4 yX4_doveNow wsX4_doveNow) := goodIn_app (goodIn_of _ (by decide +kernel)) ggX4_dove_X4_doveNow
theorem dX4_dove_0 : decode cX4_dove 0 = .ok (.aload_n 0, 1) := by decide +kernel
theorem dX4_dove_1 : decode cX4_dove 1 = .ok (.aload_n 0, 1) := by decide +kernel
theorem dX4_dove_2 : decode cX4_dove 2 = .ok (.iload_n 1, 1) := by decide +kernel
theorem dX4_dove_3 : decode cX4_dove 3 = .ok (.invokevirtual 37, 3) := by decide +kernel
theorem dX4_dove_6 : decode cX4_dove 6 = .ok (.ifCond .ne 7, 3) := by decide +kernel
theorem dX4_dove_9 : decode cX4_dove 9 = .ok (.iconst 1, 1) := by decide +kernel
theorem dX4_dove_10 : decode cX4_dove 10 = .ok (.goto 18, 3) := by decide +kernel
theorem dX4_dove_13 : decode cX4_dove 13 = .ok (.iload_n 2, 1) := by decide +kernel
theorem dX4_dove_14 : decode cX4_dove 14 = .ok (.iconst 0, 1) := by decide +kernel
theorem dX4_dove_15 : decode cX4_dove 15 = .ok (.bipush 7, 2) := by decide +kernel
theorem dX4_dove_17 : decode cX4_dove 17 = .ok (.invokestatic 29, 3) := by decide +kernel
theorem dX4_dove_20 : decode cX4_dove 20 = .ok (.ifCond .eq 7, 3) := by decide +kernel
theorem dX4_dove_23 : decode cX4_dove 23 = .ok (.iconst 0, 1) := by decide +kernel
theorem dX4_dove_24 : decode cX4_dove 24 = .ok (.goto 4, 3) := by decide +kernel
theorem dX4_dove_27 : decode cX4_dove 27 = .ok (.iconst 2, 1) := by decide +kernel
theorem dX4_dove_28 : decode cX4_dove 28 = .ok (.putfield 25, 3) := by decide +kernel
theorem dX4_dove_31 : decode cX4_dove 31 = .ok (.aload_n 0, 1) := by decide +kernel
theorem dX4_dove_32 : decode cX4_dove 32 = .ok (.getfield 25, 3) := by decide +kernel
theorem dX4_dove_35 : decode cX4_dove 35 = .ok (.ifCond .le 7, 3) := by decide +kernel
theorem dX4_dove_38 : decode cX4_dove 38 = .ok (.iconst 0, 1) := by decide +kernel
theorem dX4_dove_39 : decode cX4_dove 39 = .ok (.goto 9, 3) := by decide +kernel
theorem dX4_dove_42 : decode cX4_dove 42 = .ok (.aload_n 0, 1) := by decide +kernel
theorem dX4_dove_43 : decode cX4_dove 43 = .ok (.iload_n 1, 1) := by decide +kernel
theorem dX4_dove_44 : decode cX4_dove 44 = .ok (.iload_n 2, 1) := by decide +kernel
theorem dX4_dove_45 : decode cX4_dove 45 = .ok (.invokevirtual 153, 3) := by decide +kernel
theorem dX4_dove_48 : decode cX4_dove 48 = .ok (.ireturn, 1) := by decide +kernel
set_option maxRecDepth 20000 in
theorem ggX4_holeNow_X4_sitter : GoodIn wsX4_holeNow wsX4_sitter := goodIn_r _ [5, 6, 7, 8, 4, 9, 10, 11, 12, 13, 14, 15, 16, 17, 26, 27, 28, 29, 30, 31, 32, 33, 34, 35, 36, 37] (by decide +kernel) (by decide +kernel)
set_option maxRecDepth 20000 in
theorem gX4_holeNow_X4_sitter : GoodIn wsX4_holeNow (wsV RX4 54 RX4 yX4_sitter wsX4_sitter) := goodIn_app (goodIn_of _ (by decide +kernel)) ggX4_holeNow_X4_sitter
set_option maxRecDepth 20000 in
theorem ggX4_holeNow_X4_ownerOf : GoodIn wsX4_holeNow wsX4_ownerOf := goodIn_r _ [21, 6, 7, 8, 4, 9, 10, 11, 12, 13, 14, 15, 16, 17, 26, 27, 28, 29, 30, 31, 32, 33, 34, 35, 36, 37] (by decide +kernel) (by decide +kernel)
set_option maxRecDepth 20000 in
theorem gX4_holeNow_X4_ownerOf : GoodIn wsX4_holeNow (wsV RX4 94 RX4 yX4_ownerOf wsX4_ownerOf) := goodIn_app (goodIn_of _ (by decide +kernel)) ggX4_holeNow_X4_ownerOf
set_option maxRecDepth 20000 in
theorem ggX4_holeNow_X4_isOpen : GoodIn wsX4_holeNow wsX4_isOpen := goodIn_r _ [25, 17, 26, 27, 28, 29, 30, 31, 32, 33, 34, 35, 36, 37] (by decide +kernel) (by decide +kernel)
set_option maxRecDepth 20000 in
theorem gX4_holeNow_X4_isOpen : GoodIn wsX4_holeNow (wsV RX4 41 RX4 yX4_isOpen wsX4_isOpen) := goodIn_app (goodIn_of _ (by decide +kernel)) ggX4_holeNow_X4_isOpen
theorem dX4_holeNow_0 : decode cX4_holeNow 0 = .ok (.iload_n 2, 1) := by decide +kernel
theorem dX4_holeNow_1 : decode cX4_holeNow 1 = .ok (.ifCond .ne 11, 3) := by decide +kernel
theorem dX4_holeNow_4 : decode cX4_holeNow 4 = .ok (.aload_n 0, 1) := by decide +kernel
theorem dX4_holeNow_5 : decode cX4_holeNow 5 = .ok (.iload_n 1, 1) := by decide +kernel
theorem dX4_holeNow_6 : decode cX4_holeNow 6 = .ok (.invokevirtual 54, 3) := by decide +kernel
theorem dX4_holeNow_9 : decode cX4_holeNow 9 = .ok (.goto 29, 3) := by decide +kernel
theorem dX4_holeNow_12 : decode cX4_holeNow 12 = .ok (.iload_n 2, 1) := by decide +kernel
theorem dX4_holeNow_13 : decode cX4_holeNow 13 = .ok (.iconst 1, 1) := by decide +kernel
theorem dX4_holeNow_14 : decode cX4_holeNow 14 = .ok (.if_icmp .ne 11, 3) := by decide +kernel
theorem dX4_holeNow_17 : decode cX4_holeNow 17 = .ok (.aload_n 0, 1) := by decide +kernel
theorem dX4_holeNow_18 : decode cX4_holeNow 18 = .ok (.iload_n 1, 1) := by decide +kernel
theorem dX4_holeNow_19 : decode cX4_holeNow 19 = .ok (.invokevirtual 94, 3) := by decide +kernel
theorem dX4_holeNow_22 : decode cX4_holeNow 22 = .ok (.goto 16, 3) := by decide +kernel
theorem dX4_holeNow_25 : decode cX4_holeNow 25 = .ok (.aload_n 0, 1) := by decide +kernel
theorem dX4_holeNow_26 : decode cX4_holeNow 26 = .ok (.iload_n 1, 1) := by decide +kernel
theorem dX4_holeNow_27 : decode cX4_holeNow 27 = .ok (.invokevirtual 41, 3) := by decide +kernel
theorem dX4_holeNow_30 : decode cX4_holeNow 30 = .ok (.ifCond .eq 7, 3) := by decide +kernel
theorem dX4_holeNow_33 : decode cX4_holeNow 33 = .ok (.iconst 1, 1) := by decide +kernel
theorem dX4_holeNow_34 : decode cX4_holeNow 34 = .ok (.goto 4, 3) := by decide +kernel
theorem dX4_holeNow_37 : decode cX4_holeNow 37 = .ok (.iconst 0, 1) := by decide +kernel
theorem dX4_holeNow_38 : decode cX4_holeNow 38 = .ok (.ireturn, 1) := by decide +kernel
set_option maxRecDepth 20000 in
theorem ggX4_hole_X4_isHole : GoodIn wsX4_hole wsX4_isHole := goodIn_r _ [5, 6, 7, 4, 8] (by decide +kernel) (by decide +kernel)
set_option maxRecDepth 20000 in
theorem gX4_hole_X4_isHole : GoodIn wsX4_hole (va_wsS RX4 58 yX4_isHole wsX4_isHole) := goodIn_app (goodIn_of _ (by decide +kernel)) ggX4_hole_X4_isHole
set_option maxRecDepth 20000 in
theorem ggX4_hole_X4_in : GoodIn wsX4_hole wsX4_in := goodIn_r _ [8] (by decide +kernel) (by decide +kernel)
set_option maxRecDepth 20000 in
theorem gX4_hole_X4_in : GoodIn wsX4_hole (va_wsS RX4 29 yX4_in wsX4_in) := goodIn_app (goodIn_of _ (by decide +kernel)) ggX4_hole_X4_in
set_option maxRecDepth 20000 in
theorem ggX4_hole_X4_holeNow : GoodIn wsX4_hole wsX4_holeNow := goodIn_r _ [12, 13, 14, 15, 4, 16, 17, 18, 19, 20, 6, 7, 8, 21, 22, 23, 24, 25, 26, 27, 28, 29, 30, 31, 32, 33, 34, 35, 36, 37, 38, 39, 40, 41, 42, 43, 44, 45] (by decide +kernel) (by decide +kernel)
set_option maxRecDepth 20000 in
theorem gX4_hole_X4_holeNow : GoodIn wsX4_hole (wsV RX4 156 RX4 yX4_holeNow wsX4_holeNow) := goodIn_app (goodIn_of _ (by decide +kernel)) ggX4_hole_X4_holeNow
theorem dX4_hole_0 : decode cX4_hole 0 = .ok (.aload_n 0, 1) := by decide +kernel
theorem dX4_hole_1 : decode cX4_hole 1 = .ok (.iload_n 1, 1) := by decide +kernel
theorem dX4_hole_2 : decode cX4_hole 2 = .ok (.invokestatic 58, 3) := by decide +kernel
theorem dX4_hole_5 : decode cX4_hole 5 = .ok (.ifCond .ne 7, 3) := by decide +kernel
theorem dX4_hole_8 : decode cX4_hole 8 = .ok (.iconst 1, 1) := by decide +kernel
theorem dX4_hole_9 : decode cX4_hole 9 = .ok (.goto 17, 3) := by decide +kernel
theorem dX4_hole_12 : decode cX4_hole 12 = .ok (.iload_n 2, 1) := by decide +kernel
theorem dX4_hole_13 : decode cX4_hole 13 = .ok (.iconst 0, 1) := by decide +kernel
theorem dX4_hole_14 : decode cX4_hole 14 = .ok (.iconst 2, 1) := by decide +kernel
theorem dX4_hole_15 : decode cX4_hole 15 = .ok (.invokestatic 29, 3) := by decide +kernel
theorem dX4_hole_18 : decode cX4_hole 18 = .ok (.ifCond .eq 7, 3) := by decide +kernel
theorem dX4_hole_21 : decode cX4_hole 21 = .ok (.iconst 0, 1) := by decide +kernel
theorem dX4_hole_22 : decode cX4_hole 22 = .ok (.goto 4, 3) := by decide +kernel
theorem dX4_hole_25 : decode cX4_hole 25 = .ok (.iconst 2, 1) := by decide +kernel
theorem dX4_hole_26 : decode cX4_hole 26 = .ok (.putfield 25, 3) := by decide +kernel
theorem dX4_hole_29 : decode cX4_hole 29 = .ok (.aload_n 0, 1) := by decide +kernel
theorem dX4_hole_30 : decode cX4_hole 30 = .ok (.getfield 25, 3) := by decide +kernel
theorem dX4_hole_33 : decode cX4_hole 33 = .ok (.ifCond .le 7, 3) := by decide +kernel
theorem dX4_hole_36 : decode cX4_hole 36 = .ok (.iconst 0, 1) := by decide +kernel
theorem dX4_hole_37 : decode cX4_hole 37 = .ok (.goto 9, 3) := by decide +kernel
theorem dX4_hole_40 : decode cX4_hole 40 = .ok (.aload_n 0, 1) := by decide +kernel
theorem dX4_hole_41 : decode cX4_hole 41 = .ok (.iload_n 1, 1) := by decide +kernel
theorem dX4_hole_42 : decode cX4_hole 42 = .ok (.iload_n 2, 1) := by decide +kernel
theorem dX4_hole_43 : decode cX4_hole 43 = .ok (.invokevirtual 156, 3) := by decide +kernel
theorem dX4_hole_46 : decode cX4_hole 46 = .ok (.ireturn, 1) := by decide +kernel
set_option maxRecDepth 20000 in
theorem ggX4_countNow_X4_in : GoodIn wsX4_countNow wsX4_in := goodIn_r _ [6] (by decide +kernel) (by decide +kernel)
set_option maxRecDepth 20000 in
theorem gX4_countNow_X4_in : GoodIn wsX4_countNow (va_wsS RX4 29 yX4_in wsX4_in) := goodIn_app (goodIn_of _ (by decide +kernel)) ggX4_countNow_X4_in
set_option maxRecDepth 20000 in
theorem ggX4_countNow_X4_allDoves : GoodIn wsX4_countNow wsX4_allDoves := goodIn_r _ [10, 11, 12, 13, 5, 14, 1, 35, 36, 37, 38, 39, 40, 41, 42, 43, 44, 45, 46] (by decide +kernel) (by decide +kernel)
set_option maxRecDepth 20000 in
theorem gX4_countNow_X4_allDoves : GoodIn wsX4_countNow (wsV RX4 91 RX4 yX4_allDoves wsX4_allDoves) := goodIn_app (goodIn_of _ (by decide +kernel)) ggX4_countNow_X4_allDoves
set_option maxRecDepth 20000 in
theorem ggX4_countNow_X4_dovesAt : GoodIn wsX4_countNow wsX4_dovesAt := goodIn_r _ [18, 19, 20, 21, 5, 22, 3, 4, 6, 11, 12, 13, 14, 1, 35, 36, 37, 38, 39, 40, 41, 42, 43, 44, 45, 46] (by decide +kernel) (by decide +kernel)
set_option maxRecDepth 20000 in
theorem gX4_countNow_X4_dovesAt : GoodIn wsX4_countNow (wsV RX4 84 RX4 yX4_dovesAt wsX4_dovesAt) := goodIn_app (goodIn_of _ (by decide +kernel)) ggX4_countNow_X4_dovesAt
set_option maxRecDepth 20000 in
theorem ggX4_countNow_X4_openHoles : GoodIn wsX4_countNow wsX4_openHoles := goodIn_r _ [26, 27, 28, 29, 5, 30, 1, 35, 36, 37, 38, 39, 40, 41, 42, 43, 44, 45, 46] (by decide +kernel) (by decide +kernel)
set_option maxRecDepth 20000 in
theorem gX4_countNow_X4_openHoles : GoodIn wsX4_countNow (wsV RX4 115 RX4 yX4_openHoles wsX4_openHoles) := goodIn_app (goodIn_of _ (by decide +kernel)) ggX4_countNow_X4_openHoles
set_option maxRecDepth 20000 in
theorem ggX4_countNow_X4_pairs : GoodIn wsX4_countNow wsX4_pairs := goodIn_r _ [34, 19, 20, 21, 5, 22, 3, 4, 6, 11, 12, 13, 14, 1, 35, 36, 37, 38, 39, 40, 41, 42, 43, 44, 45, 46] (by decide +kernel) (by decide +kernel)
set_option maxRecDepth 20000 in
theorem gX4_countNow_X4_pairs : GoodIn wsX4_countNow (wsV RX4 103 RX4 yX4_pairs wsX4_pairs) := goodIn_app (goodIn_of _ (by decide +kernel)) ggX4_countNow_X4_pairs
theorem dX4_countNow_0 : decode cX4_countNow 0 = .ok (.iload_n 1, 1) := by decide +kernel
theorem dX4_countNow_1 : decode cX4_countNow 1 = .ok (.bipush 11, 2) := by decide +kernel
theorem dX4_countNow_3 : decode cX4_countNow 3 = .ok (.bipush 14, 2) := by decide +kernel
theorem dX4_countNow_5 : decode cX4_countNow 5 = .ok (.invokestatic 29, 3) := by decide +kernel
theorem dX4_countNow_8 : decode cX4_countNow 8 = .ok (.ifCond .eq 17, 3) := by decide +kernel
theorem dX4_countNow_11 : decode cX4_countNow 11 = .ok (.aload_n 0, 1) := by decide +kernel
theorem dX4_countNow_12 : decode cX4_countNow 12 = .ok (.getfield 7, 3) := by decide +kernel
theorem dX4_countNow_15 : decode cX4_countNow 15 = .ok (.sipush 174, 3) := by decide +kernel
theorem dX4_countNow_18 : decode cX4_countNow 18 = .ok (.iload_n 1, 1) := by decide +kernel
theorem dX4_countNow_19 : decode cX4_countNow 19 = .ok (.iadd, 1) := by decide +kernel
theorem dX4_countNow_20 : decode cX4_countNow 20 = .ok (.bipush 11, 2) := by decide +kernel
theorem dX4_countNow_22 : decode cX4_countNow 22 = .ok (.isub, 1) := by decide +kernel
theorem dX4_countNow_23 : decode cX4_countNow 23 = .ok (.iaload, 1) := by decide +kernel
theorem dX4_countNow_24 : decode cX4_countNow 24 = .ok (.ireturn, 1) := by decide +kernel
theorem dX4_countNow_25 : decode cX4_countNow 25 = .ok (.iload_n 1, 1) := by decide +kernel
theorem dX4_countNow_26 : decode cX4_countNow 26 = .ok (.tableswitch 171 0 16 #[82, 91, 100, 105, 105, 113, 122, 129, 134, 139, 148, 171, 171, 171, 171, 157, 157], 82) := by decide +kernel
theorem dX4_countNow_108 : decode cX4_countNow 108 = .ok (.aload_n 0, 1) := by decide +kernel
theorem dX4_countNow_109 : decode cX4_countNow 109 = .ok (.getfield 7, 3) := by decide +kernel
theorem dX4_countNow_112 : decode cX4_countNow 112 = .ok (.sipush 169, 3) := by decide +kernel
theorem dX4_countNow_115 : decode cX4_countNow 115 = .ok (.iaload, 1) := by decide +kernel
theorem dX4_countNow_116 : decode cX4_countNow 116 = .ok (.ireturn, 1) := by decide +kernel
theorem dX4_countNow_117 : decode cX4_countNow 117 = .ok (.aload_n 0, 1) := by decide +kernel
theorem dX4_countNow_118 : decode cX4_countNow 118 = .ok (.getfield 7, 3) := by decide +kernel
theorem dX4_countNow_121 : decode cX4_countNow 121 = .ok (.sipush 168, 3) := by decide +kernel
theorem dX4_countNow_124 : decode cX4_countNow 124 = .ok (.iaload, 1) := by decide +kernel
theorem dX4_countNow_125 : decode cX4_countNow 125 = .ok (.ireturn, 1) := by decide +kernel
theorem dX4_countNow_126 : decode cX4_countNow 126 = .ok (.aload_n 0, 1) := by decide +kernel
theorem dX4_countNow_127 : decode cX4_countNow 127 = .ok (.invokevirtual 91, 3) := by decide +kernel
theorem dX4_countNow_130 : decode cX4_countNow 130 = .ok (.ireturn, 1) := by decide +kernel
theorem dX4_countNow_131 : decode cX4_countNow 131 = .ok (.aload_n 0, 1) := by decide +kernel
theorem dX4_countNow_132 : decode cX4_countNow 132 = .ok (.iconst 0, 1) := by decide +kernel
theorem dX4_countNow_133 : decode cX4_countNow 133 = .ok (.bipush 23, 2) := by decide +kernel
theorem dX4_countNow_135 : decode cX4_countNow 135 = .ok (.invokevirtual 84, 3) := by decide +kernel
theorem dX4_countNow_138 : decode cX4_countNow 138 = .ok (.ireturn, 1) := by decide +kernel
theorem dX4_countNow_139 : decode cX4_countNow 139 = .ok (.aload_n 0, 1) := by decide +kernel
theorem dX4_countNow_140 : decode cX4_countNow 140 = .ok (.bipush 24, 2) := by decide +kernel
theorem dX4_countNow_142 : decode cX4_countNow 142 = .ok (.bipush 24, 2) := by decide +kernel
theorem dX4_countNow_144 : decode cX4_countNow 144 = .ok (.invokevirtual 84, 3) := by decide +kernel
theorem dX4_countNow_147 : decode cX4_countNow 147 = .ok (.ireturn, 1) := by decide +kernel
theorem dX4_countNow_148 : decode cX4_countNow 148 = .ok (.aload_n 0, 1) := by decide +kernel
theorem dX4_countNow_149 : decode cX4_countNow 149 = .ok (.iconst (-1), 1) := by decide +kernel
theorem dX4_countNow_150 : decode cX4_countNow 150 = .ok (.iconst (-1), 1) := by decide +kernel
theorem dX4_countNow_151 : decode cX4_countNow 151 = .ok (.invokevirtual 84, 3) := by decide +kernel
theorem dX4_countNow_154 : decode cX4_countNow 154 = .ok (.ireturn, 1) := by decide +kernel
theorem dX4_countNow_155 : decode cX4_countNow 155 = .ok (.aload_n 0, 1) := by decide +kernel
theorem dX4_countNow_156 : decode cX4_countNow 156 = .ok (.invokevirtual 115, 3) := by decide +kernel
theorem dX4_countNow_159 : decode cX4_countNow 159 = .ok (.ireturn, 1) := by decide +kernel
theorem dX4_countNow_160 : decode cX4_countNow 160 = .ok (.aload_n 0, 1) := by decide +kernel
theorem dX4_countNow_161 : decode cX4_countNow 161 = .ok (.invokevirtual 103, 3) := by decide +kernel
theorem dX4_countNow_164 : decode cX4_countNow 164 = .ok (.ireturn, 1) := by decide +kernel
theorem dX4_countNow_165 : decode cX4_countNow 165 = .ok (.aload_n 0, 1) := by decide +kernel
theorem dX4_countNow_166 : decode cX4_countNow 166 = .ok (.getfield 7, 3) := by decide +kernel
theorem dX4_countNow_169 : decode cX4_countNow 169 = .ok (.sipush 172, 3) := by decide +kernel
theorem dX4_countNow_172 : decode cX4_countNow 172 = .ok (.iaload, 1) := by decide +kernel
theorem dX4_countNow_173 : decode cX4_countNow 173 = .ok (.ireturn, 1) := by decide +kernel
theorem dX4_countNow_174 : decode cX4_countNow 174 = .ok (.aload_n 0, 1) := by decide +kernel
theorem dX4_countNow_175 : decode cX4_countNow 175 = .ok (.getfield 7, 3) := by decide +kernel
theorem dX4_countNow_178 : decode cX4_countNow 178 = .ok (.sipush 173, 3) := by decide +kernel
theorem dX4_countNow_181 : decode cX4_countNow 181 = .ok (.iaload, 1) := by decide +kernel
theorem dX4_countNow_182 : decode cX4_countNow 182 = .ok (.ireturn, 1) := by decide +kernel
theorem dX4_countNow_183 : decode cX4_countNow 183 = .ok (.aload_n 0, 1) := by decide +kernel
theorem dX4_countNow_184 : decode cX4_countNow 184 = .ok (.getfield 7, 3) := by decide +kernel
theorem dX4_countNow_187 : decode cX4_countNow 187 = .ok (.sipush 170, 3) := by decide +kernel
theorem dX4_countNow_190 : decode cX4_countNow 190 = .ok (.iload_n 1, 1) := by decide +kernel
theorem dX4_countNow_191 : decode cX4_countNow 191 = .ok (.iadd, 1) := by decide +kernel
theorem dX4_countNow_192 : decode cX4_countNow 192 = .ok (.bipush 15, 2) := by decide +kernel
theorem dX4_countNow_194 : decode cX4_countNow 194 = .ok (.isub, 1) := by decide +kernel
theorem dX4_countNow_195 : decode cX4_countNow 195 = .ok (.iaload, 1) := by decide +kernel
theorem dX4_countNow_196 : decode cX4_countNow 196 = .ok (.ireturn, 1) := by decide +kernel
theorem dX4_countNow_197 : decode cX4_countNow 197 = .ok (.aload_n 0, 1) := by decide +kernel
theorem dX4_countNow_198 : decode cX4_countNow 198 = .ok (.getfield 44, 3) := by decide +kernel
theorem dX4_countNow_201 : decode cX4_countNow 201 = .ok (.ireturn, 1) := by decide +kernel
set_option maxRecDepth 20000 in
theorem ggX4_count_X4_in : GoodIn wsX4_count wsX4_in := goodIn_r _ [5] (by decide +kernel) (by decide +kernel)
set_option maxRecDepth 20000 in
theorem gX4_count_X4_in : GoodIn wsX4_count (va_wsS RX4 29 yX4_in wsX4_in) := goodIn_app (goodIn_of _ (by decide +kernel)) ggX4_count_X4_in
set_option maxRecDepth 20000 in
theorem ggX4_count_X4_countNow : GoodIn wsX4_count wsX4_countNow := goodIn_r _ [9, 10, 11, 2, 3, 4, 5, 12, 13, 14, 15, 16, 17, 18, 19, 20, 21, 22, 23, 24, 25, 26, 27, 28, 29, 30, 31, 32, 33, 34, 35, 36, 37, 38, 39, 40, 41, 42, 43, 44, 45, 46, 47, 48, 49, 50, 51] (by decide +kernel) (by decide +kernel)
set_option maxRecDepth 20000 in
theorem gX4_count_X4_countNow : GoodIn wsX4_count (wsV RX4 159 RX4 yX4_countNow wsX4_countNow) := goodIn_app (goodIn_of _ (by decide +kernel)) ggX4_count_X4_countNow
theorem dX4_count_0 : decode cX4_count 0 = .ok (.aload_n 0, 1) := by decide +kernel
theorem dX4_count_1 : decode cX4_count 1 = .ok (.iload_n 1, 1) := by decide +kernel
theorem dX4_count_2 : decode cX4_count 2 = .ok (.iconst 0, 1) := by decide +kernel
theorem dX4_count_3 : decode cX4_count 3 = .ok (.bipush 17, 2) := by decide +kernel
theorem dX4_count_5 : decode cX4_count 5 = .ok (.invokestatic 29, 3) := by decide +kernel
theorem dX4_count_8 : decode cX4_count 8 = .ok (.ifCond .eq 7, 3) := by decide +kernel
theorem dX4_count_11 : decode cX4_count 11 = .ok (.iconst 0, 1) := by decide +kernel
theorem dX4_count_12 : decode cX4_count 12 = .ok (.goto 4, 3) := by decide +kernel
theorem dX4_count_15 : decode cX4_count 15 = .ok (.iconst 1, 1) := by decide +kernel
theorem dX4_count_16 : decode cX4_count 16 = .ok (.putfield 25, 3) := by decide +kernel
theorem dX4_count_19 : decode cX4_count 19 = .ok (.aload_n 0, 1) := by decide +kernel
theorem dX4_count_20 : decode cX4_count 20 = .ok (.getfield 25, 3) := by decide +kernel
theorem dX4_count_23 : decode cX4_count 23 = .ok (.ifCond .le 7, 3) := by decide +kernel
theorem dX4_count_26 : decode cX4_count 26 = .ok (.iconst 0, 1) := by decide +kernel
theorem dX4_count_27 : decode cX4_count 27 = .ok (.goto 8, 3) := by decide +kernel
theorem dX4_count_30 : decode cX4_count 30 = .ok (.aload_n 0, 1) := by decide +kernel
theorem dX4_count_31 : decode cX4_count 31 = .ok (.iload_n 1, 1) := by decide +kernel
theorem dX4_count_32 : decode cX4_count 32 = .ok (.invokevirtual 159, 3) := by decide +kernel
theorem dX4_count_35 : decode cX4_count 35 = .ok (.ireturn, 1) := by decide +kernel
set_option maxRecDepth 20000 in
theorem ggX4_step_X4_in : GoodIn wsX4_step wsX4_in := goodIn_r _ [6] (by decide +kernel) (by decide +kernel)
set_option maxRecDepth 20000 in
theorem gX4_step_X4_in : GoodIn wsX4_step (va_wsS RX4 29 yX4_in wsX4_in) := goodIn_app (goodIn_of _ (by decide +kernel)) ggX4_step_X4_in
theorem dX4_step_0 : decode cX4_step 0 = .ok (.aload_n 0, 1) := by decide +kernel
theorem dX4_step_1 : decode cX4_step 1 = .ok (.iload_n 1, 1) := by decide +kernel
theorem dX4_step_2 : decode cX4_step 2 = .ok (.ifCond .lt 16, 3) := by decide +kernel
theorem dX4_step_5 : decode cX4_step 5 = .ok (.iload_n 2, 1) := by decide +kernel
theorem dX4_step_6 : decode cX4_step 6 = .ok (.iconst 0, 1) := by decide +kernel
theorem dX4_step_7 : decode cX4_step 7 = .ok (.iconst 1, 1) := by decide +kernel
theorem dX4_step_8 : decode cX4_step 8 = .ok (.invokestatic 29, 3) := by decide +kernel
theorem dX4_step_11 : decode cX4_step 11 = .ok (.ifCond .eq 7, 3) := by decide +kernel
theorem dX4_step_14 : decode cX4_step 14 = .ok (.iconst 0, 1) := by decide +kernel
theorem dX4_step_15 : decode cX4_step 15 = .ok (.goto 4, 3) := by decide +kernel
theorem dX4_step_18 : decode cX4_step 18 = .ok (.iconst 1, 1) := by decide +kernel
theorem dX4_step_19 : decode cX4_step 19 = .ok (.putfield 25, 3) := by decide +kernel
theorem dX4_step_22 : decode cX4_step 22 = .ok (.aload_n 0, 1) := by decide +kernel
theorem dX4_step_23 : decode cX4_step 23 = .ok (.getfield 25, 3) := by decide +kernel
theorem dX4_step_26 : decode cX4_step 26 = .ok (.ifCond .le 5, 3) := by decide +kernel
theorem dX4_step_29 : decode cX4_step 29 = .ok (.iconst 0, 1) := by decide +kernel
theorem dX4_step_30 : decode cX4_step 30 = .ok (.ireturn, 1) := by decide +kernel
theorem dX4_step_31 : decode cX4_step 31 = .ok (.iload_n 1, 1) := by decide +kernel
theorem dX4_step_32 : decode cX4_step 32 = .ok (.aload_n 0, 1) := by decide +kernel
theorem dX4_step_33 : decode cX4_step 33 = .ok (.getfield 7, 3) := by decide +kernel
theorem dX4_step_36 : decode cX4_step 36 = .ok (.sipush 180, 3) := by decide +kernel
theorem dX4_step_39 : decode cX4_step 39 = .ok (.iaload, 1) := by decide +kernel
theorem dX4_step_40 : decode cX4_step 40 = .ok (.if_icmp .ge 20, 3) := by decide +kernel
theorem dX4_step_43 : decode cX4_step 43 = .ok (.aload_n 0, 1) := by decide +kernel
theorem dX4_step_44 : decode cX4_step 44 = .ok (.getfield 7, 3) := by decide +kernel
theorem dX4_step_47 : decode cX4_step 47 = .ok (.sipush 181, 3) := by decide +kernel
theorem dX4_step_50 : decode cX4_step 50 = .ok (.iconst 2, 1) := by decide +kernel
theorem dX4_step_51 : decode cX4_step 51 = .ok (.iload_n 1, 1) := by decide +kernel
theorem dX4_step_52 : decode cX4_step 52 = .ok (.imul, 1) := by decide +kernel
theorem dX4_step_53 : decode cX4_step 53 = .ok (.iadd, 1) := by decide +kernel
theorem dX4_step_54 : decode cX4_step 54 = .ok (.iload_n 2, 1) := by decide +kernel
theorem dX4_step_55 : decode cX4_step 55 = .ok (.iadd, 1) := by decide +kernel
theorem dX4_step_56 : decode cX4_step 56 = .ok (.iaload, 1) := by decide +kernel
theorem dX4_step_57 : decode cX4_step 57 = .ok (.goto 4, 3) := by decide +kernel
theorem dX4_step_60 : decode cX4_step 60 = .ok (.iconst (-1), 1) := by decide +kernel
theorem dX4_step_61 : decode cX4_step 61 = .ok (.ireturn, 1) := by decide +kernel
set_option maxRecDepth 20000 in
theorem ggX4_whyNot_X4_isDove : GoodIn wsX4_whyNot wsX4_isDove := goodIn_r _ [6, 7, 8, 5, 9, 10, 11, 12, 13, 14, 19, 20, 21, 22, 23, 24, 25, 26, 27, 28, 29, 30] (by decide +kernel) (by decide +kernel)
set_option maxRecDepth 20000 in
theorem gX4_whyNot_X4_isDove : GoodIn wsX4_whyNot (wsV RX4 37 RX4 yX4_isDove wsX4_isDove) := goodIn_app (goodIn_of _ (by decide +kernel)) ggX4_whyNot_X4_isDove
set_option maxRecDepth 20000 in
theorem ggX4_whyNot_X4_in : GoodIn wsX4_whyNot wsX4_in := goodIn_r _ [9] (by decide +kernel) (by decide +kernel)
set_option maxRecDepth 20000 in
theorem gX4_whyNot_X4_in : GoodIn wsX4_whyNot (va_wsS RX4 29 yX4_in wsX4_in) := goodIn_app (goodIn_of _ (by decide +kernel)) ggX4_whyNot_X4_in
set_option maxRecDepth 20000 in
theorem ggX4_whyNot_X4_whyNoHome : GoodIn wsX4_whyNot wsX4_whyNoHome := goodIn_r _ [18, 14, 10, 11, 12, 5, 13, 19, 20, 21, 22, 23, 24, 25, 26, 27, 28, 29, 30] (by decide +kernel) (by decide +kernel)
set_option maxRecDepth 20000 in
theorem gX4_whyNot_X4_whyNoHome : GoodIn wsX4_whyNot (wsV RX4 78 RX4 yX4_whyNoHome wsX4_whyNoHome) := goodIn_app (goodIn_of _ (by decide +kernel)) ggX4_whyNot_X4_whyNoHome
theorem dX4_whyNot_0 : decode cX4_whyNot 0 = .ok (.aload_n 0, 1) := by decide +kernel
theorem dX4_whyNot_1 : decode cX4_whyNot 1 = .ok (.aload_n 0, 1) := by decide +kernel
theorem dX4_whyNot_2 : decode cX4_whyNot 2 = .ok (.iload_n 1, 1) := by decide +kernel
theorem dX4_whyNot_3 : decode cX4_whyNot 3 = .ok (.invokevirtual 37, 3) := by decide +kernel
theorem dX4_whyNot_6 : decode cX4_whyNot 6 = .ok (.ifCond .ne 7, 3) := by decide +kernel
theorem dX4_whyNot_9 : decode cX4_whyNot 9 = .ok (.iconst 1, 1) := by decide +kernel
theorem dX4_whyNot_10 : decode cX4_whyNot 10 = .ok (.goto 19, 3) := by decide +kernel
theorem dX4_whyNot_13 : decode cX4_whyNot 13 = .ok (.iload_n 2, 1) := by decide +kernel
theorem dX4_whyNot_14 : decode cX4_whyNot 14 = .ok (.iconst 0, 1) := by decide +kernel
theorem dX4_whyNot_15 : decode cX4_whyNot 15 = .ok (.sipush 1439, 3) := by decide +kernel
theorem dX4_whyNot_18 : decode cX4_whyNot 18 = .ok (.invokestatic 29, 3) := by decide +kernel
theorem dX4_whyNot_21 : decode cX4_whyNot 21 = .ok (.ifCond .eq 7, 3) := by decide +kernel
theorem dX4_whyNot_24 : decode cX4_whyNot 24 = .ok (.iconst 0, 1) := by decide +kernel
theorem dX4_whyNot_25 : decode cX4_whyNot 25 = .ok (.goto 4, 3) := by decide +kernel
theorem dX4_whyNot_28 : decode cX4_whyNot 28 = .ok (.iconst 2, 1) := by decide +kernel
theorem dX4_whyNot_29 : decode cX4_whyNot 29 = .ok (.putfield 25, 3) := by decide +kernel
theorem dX4_whyNot_32 : decode cX4_whyNot 32 = .ok (.aload_n 0, 1) := by decide +kernel
theorem dX4_whyNot_33 : decode cX4_whyNot 33 = .ok (.getfield 25, 3) := by decide +kernel
theorem dX4_whyNot_36 : decode cX4_whyNot 36 = .ok (.ifCond .le 7, 3) := by decide +kernel
theorem dX4_whyNot_39 : decode cX4_whyNot 39 = .ok (.iconst 0, 1) := by decide +kernel
theorem dX4_whyNot_40 : decode cX4_whyNot 40 = .ok (.goto 9, 3) := by decide +kernel
theorem dX4_whyNot_43 : decode cX4_whyNot 43 = .ok (.aload_n 0, 1) := by decide +kernel
theorem dX4_whyNot_44 : decode cX4_whyNot 44 = .ok (.iload_n 1, 1) := by decide +kernel
theorem dX4_whyNot_45 : decode cX4_whyNot 45 = .ok (.iload_n 2, 1) := by decide +kernel
theorem dX4_whyNot_46 : decode cX4_whyNot 46 = .ok (.invokevirtual 78, 3) := by decide +kernel
theorem dX4_whyNot_49 : decode cX4_whyNot 49 = .ok (.ireturn, 1) := by decide +kernel
set_option maxRecDepth 20000 in
theorem ggX4_homeIf_X4_whyNoHome : GoodIn wsX4_homeIf wsX4_whyNoHome := goodIn_r _ [5, 6, 7, 8, 9, 4, 10, 66, 67, 68, 69, 70, 71, 72, 73, 74, 75, 76, 77] (by decide +kernel) (by decide +kernel)
set_option maxRecDepth 20000 in
theorem gX4_homeIf_X4_whyNoHome : GoodIn wsX4_homeIf (wsV RX4 78 RX4 yX4_whyNoHome wsX4_whyNoHome) := goodIn_app (goodIn_of _ (by decide +kernel)) ggX4_homeIf_X4_whyNoHome
set_option maxRecDepth 20000 in
theorem ggX4_homeIf_X4_putAside : GoodIn wsX4_homeIf wsX4_putAside := goodIn_r _ [14, 15, 6, 66, 67, 68, 69, 70, 71, 72, 73, 74, 75, 76, 77] (by decide +kernel) (by decide +kernel)
set_option maxRecDepth 20000 in
theorem gX4_homeIf_X4_putAside : GoodIn wsX4_homeIf (wsV RX4 162 RX4 yX4_putAside wsX4_putAside) := goodIn_app (goodIn_of _ (by decide +kernel)) ggX4_homeIf_X4_putAside
set_option maxRecDepth 20000 in
theorem ggX4_homeIf_X4_dovesAt : GoodIn wsX4_homeIf wsX4_dovesAt := goodIn_r _ [19, 20, 21, 22, 4, 23, 24, 25, 26, 7, 8, 9, 10, 6, 66, 67, 68, 69, 70, 71, 72, 73, 74, 75, 76, 77] (by decide +kernel) (by decide +kernel)
set_option maxRecDepth 20000 in
theorem gX4_homeIf_X4_dovesAt : GoodIn wsX4_homeIf (wsV RX4 84 RX4 yX4_dovesAt wsX4_dovesAt) := goodIn_app (goodIn_of _ (by decide +kernel)) ggX4_homeIf_X4_dovesAt
set_option maxRecDepth 20000 in
theorem ggX4_homeIf_X4_doHome : GoodIn wsX4_homeIf wsX4_doHome := goodIn_r _ [30, 6, 7, 8, 9, 4, 10, 31, 32, 33, 34, 35, 36, 37, 38, 39, 40, 41, 42, 20, 21, 22, 23, 24, 25, 26, 43, 44, 45, 46, 47, 48, 49, 50, 51, 52, 53, 54, 55, 56, 57, 58, 59, 60, 61, 66, 67, 68, 69, 70, 71, 72, 73, 74, 75, 76, 77] (by decide +kernel) (by decide +kernel)
set_option maxRecDepth 20000 in
theorem gX4_homeIf_X4_doHome : GoodIn wsX4_homeIf (wsV RX4 81 RX4 yX4_doHome wsX4_doHome) := goodIn_app (goodIn_of _ (by decide +kernel)) ggX4_homeIf_X4_doHome
set_option maxRecDepth 20000 in
theorem ggX4_homeIf_X4_of : GoodIn wsX4_homeIf wsX4_of := goodIn_r _ [10, 6, 66, 67, 68, 69, 70, 71, 72, 73, 74, 75, 76, 77] (by decide +kernel) (by decide +kernel)
set_option maxRecDepth 20000 in
theorem gX4_homeIf_X4_of : GoodIn wsX4_homeIf (wsV RX4 33 RX4 yX4_of wsX4_of) := goodIn_app (goodIn_of _ (by decide +kernel)) ggX4_homeIf_X4_of
set_option maxRecDepth 20000 in
theorem ggX4_homeIf_X4_putBack : GoodIn wsX4_homeIf wsX4_putBack := goodIn_r _ [65, 6, 15, 66, 67, 68, 69, 70, 71, 72, 73, 74, 75, 76, 77] (by decide +kernel) (by decide +kernel)
set_option maxRecDepth 20000 in
theorem gX4_homeIf_X4_putBack : GoodIn wsX4_homeIf (wsV RX4 165 RX4 yX4_putBack wsX4_putBack) := goodIn_app (goodIn_of _ (by decide +kernel)) ggX4_homeIf_X4_putBack
theorem dX4_homeIf_0 : decode cX4_homeIf 0 = .ok (.aload_n 0, 1) := by decide +kernel
theorem dX4_homeIf_1 : decode cX4_homeIf 1 = .ok (.iload_n 1, 1) := by decide +kernel
theorem dX4_homeIf_2 : decode cX4_homeIf 2 = .ok (.iload_n 2, 1) := by decide +kernel
theorem dX4_homeIf_3 : decode cX4_homeIf 3 = .ok (.invokevirtual 78, 3) := by decide +kernel
theorem dX4_homeIf_6 : decode cX4_homeIf 6 = .ok (.ifCond .le 5, 3) := by decide +kernel
theorem dX4_homeIf_9 : decode cX4_homeIf 9 = .ok (.iconst (-1), 1) := by decide +kernel
theorem dX4_homeIf_10 : decode cX4_homeIf 10 = .ok (.ireturn, 1) := by decide +kernel
theorem dX4_homeIf_11 : decode cX4_homeIf 11 = .ok (.aload_n 0, 1) := by decide +kernel
theorem dX4_homeIf_12 : decode cX4_homeIf 12 = .ok (.invokevirtual 162, 3) := by decide +kernel
theorem dX4_homeIf_15 : decode cX4_homeIf 15 = .ok (.aload_n 0, 1) := by decide +kernel
theorem dX4_homeIf_16 : decode cX4_homeIf 16 = .ok (.bipush 24, 2) := by decide +kernel
theorem dX4_homeIf_18 : decode cX4_homeIf 18 = .ok (.bipush 24, 2) := by decide +kernel
theorem dX4_homeIf_20 : decode cX4_homeIf 20 = .ok (.invokevirtual 84, 3) := by decide +kernel
theorem dX4_homeIf_23 : decode cX4_homeIf 23 = .ok (.istore 4, 2) := by decide +kernel
theorem dX4_homeIf_25 : decode cX4_homeIf 25 = .ok (.aload_n 0, 1) := by decide +kernel
theorem dX4_homeIf_26 : decode cX4_homeIf 26 = .ok (.iload_n 1, 1) := by decide +kernel
theorem dX4_homeIf_27 : decode cX4_homeIf 27 = .ok (.iload_n 2, 1) := by decide +kernel
theorem dX4_homeIf_28 : decode cX4_homeIf 28 = .ok (.invokevirtual 81, 3) := by decide +kernel
theorem dX4_homeIf_31 : decode cX4_homeIf 31 = .ok (.istore 5, 2) := by decide +kernel
theorem dX4_homeIf_33 : decode cX4_homeIf 33 = .ok (.iload_n 3, 1) := by decide +kernel
theorem dX4_homeIf_34 : decode cX4_homeIf 34 = .ok (.ifCond .ne 12, 3) := by decide +kernel
theorem dX4_homeIf_37 : decode cX4_homeIf 37 = .ok (.aload_n 0, 1) := by decide +kernel
theorem dX4_homeIf_38 : decode cX4_homeIf 38 = .ok (.iload_n 1, 1) := by decide +kernel
theorem dX4_homeIf_39 : decode cX4_homeIf 39 = .ok (.iconst 3, 1) := by decide +kernel
theorem dX4_homeIf_40 : decode cX4_homeIf 40 = .ok (.invokevirtual 33, 3) := by decide +kernel
theorem dX4_homeIf_43 : decode cX4_homeIf 43 = .ok (.goto 24, 3) := by decide +kernel
theorem dX4_homeIf_46 : decode cX4_homeIf 46 = .ok (.iload_n 3, 1) := by decide +kernel
theorem dX4_homeIf_47 : decode cX4_homeIf 47 = .ok (.iconst 1, 1) := by decide +kernel
theorem dX4_homeIf_48 : decode cX4_homeIf 48 = .ok (.if_icmp .ne 8, 3) := by decide +kernel
theorem dX4_homeIf_51 : decode cX4_homeIf 51 = .ok (.iload 5, 2) := by decide +kernel
theorem dX4_homeIf_53 : decode cX4_homeIf 53 = .ok (.goto 14, 3) := by decide +kernel
theorem dX4_homeIf_56 : decode cX4_homeIf 56 = .ok (.aload_n 0, 1) := by decide +kernel
theorem dX4_homeIf_57 : decode cX4_homeIf 57 = .ok (.bipush 24, 2) := by decide +kernel
theorem dX4_homeIf_59 : decode cX4_homeIf 59 = .ok (.bipush 24, 2) := by decide +kernel
theorem dX4_homeIf_61 : decode cX4_homeIf 61 = .ok (.invokevirtual 84, 3) := by decide +kernel
theorem dX4_homeIf_64 : decode cX4_homeIf 64 = .ok (.iload 4, 2) := by decide +kernel
theorem dX4_homeIf_66 : decode cX4_homeIf 66 = .ok (.isub, 1) := by decide +kernel
theorem dX4_homeIf_67 : decode cX4_homeIf 67 = .ok (.istore 6, 2) := by decide +kernel
theorem dX4_homeIf_69 : decode cX4_homeIf 69 = .ok (.aload_n 0, 1) := by decide +kernel
theorem dX4_homeIf_70 : decode cX4_homeIf 70 = .ok (.invokevirtual 165, 3) := by decide +kernel
theorem dX4_homeIf_73 : decode cX4_homeIf 73 = .ok (.iload 6, 2) := by decide +kernel
theorem dX4_homeIf_75 : decode cX4_homeIf 75 = .ok (.ireturn, 1) := by decide +kernel
set_option maxRecDepth 20000 in
theorem ggX4_ifHome_X4_isDove : GoodIn wsX4_ifHome wsX4_isDove := goodIn_r _ [6, 7, 8, 5, 9, 10, 11, 12, 13, 14, 71, 72, 73, 74, 75, 76, 77, 78, 79, 80, 81, 82] (by decide +kernel) (by decide +kernel)
set_option maxRecDepth 20000 in
theorem gX4_ifHome_X4_isDove : GoodIn wsX4_ifHome (wsV RX4 37 RX4 yX4_isDove wsX4_isDove) := goodIn_app (goodIn_of _ (by decide +kernel)) ggX4_ifHome_X4_isDove
set_option maxRecDepth 20000 in
theorem ggX4_ifHome_X4_in : GoodIn wsX4_ifHome wsX4_in := goodIn_r _ [9] (by decide +kernel) (by decide +kernel)
set_option maxRecDepth 20000 in
theorem gX4_ifHome_X4_in : GoodIn wsX4_ifHome (va_wsS RX4 29 yX4_in wsX4_in) := goodIn_app (goodIn_of _ (by decide +kernel)) ggX4_ifHome_X4_in
set_option maxRecDepth 20000 in
theorem ggX4_ifHome_X4_homeIf : GoodIn wsX4_ifHome wsX4_homeIf := goodIn_r _ [18, 19, 20, 21, 5, 22, 14, 10, 11, 12, 13, 23, 24, 25, 26, 27, 28, 29, 30, 31, 2, 3, 4, 6, 7, 8, 9, 32, 33, 34, 35, 36, 37, 38, 39, 40, 41, 42, 43, 44, 45, 46, 47, 48, 49, 50, 51, 52, 53, 54, 55, 56, 57, 58, 59, 60, 61, 62, 63, 64, 65, 66, 67, 68, 69, 70, 71, 72, 73, 74, 75, 76, 77, 78, 79, 80, 81, 82] (by decide +kernel) (by decide +kernel)
set_option maxRecDepth 20000 in
theorem gX4_ifHome_X4_homeIf : GoodIn wsX4_ifHome (wsV RX4 168 RX4 yX4_homeIf wsX4_homeIf) := goodIn_app (goodIn_of _ (by decide +kernel)) ggX4_ifHome_X4_homeIf
theorem dX4_ifHome_0 : decode cX4_ifHome 0 = .ok (.aload_n 0, 1) := by decide +kernel
theorem dX4_ifHome_1 : decode cX4_ifHome 1 = .ok (.aload_n 0, 1) := by decide +kernel
theorem dX4_ifHome_2 : decode cX4_ifHome 2 = .ok (.iload_n 1, 1) := by decide +kernel
theorem dX4_ifHome_3 : decode cX4_ifHome 3 = .ok (.invokevirtual 37, 3) := by decide +kernel
theorem dX4_ifHome_6 : decode cX4_ifHome 6 = .ok (.ifCond .ne 7, 3) := by decide +kernel
theorem dX4_ifHome_9 : decode cX4_ifHome 9 = .ok (.iconst 1, 1) := by decide +kernel
theorem dX4_ifHome_10 : decode cX4_ifHome 10 = .ok (.goto 28, 3) := by decide +kernel
theorem dX4_ifHome_13 : decode cX4_ifHome 13 = .ok (.iload_n 2, 1) := by decide +kernel
theorem dX4_ifHome_14 : decode cX4_ifHome 14 = .ok (.iconst 0, 1) := by decide +kernel
theorem dX4_ifHome_15 : decode cX4_ifHome 15 = .ok (.sipush 1439, 3) := by decide +kernel
theorem dX4_ifHome_18 : decode cX4_ifHome 18 = .ok (.invokestatic 29, 3) := by decide +kernel
theorem dX4_ifHome_21 : decode cX4_ifHome 21 = .ok (.ifCond .eq 16, 3) := by decide +kernel
theorem dX4_ifHome_24 : decode cX4_ifHome 24 = .ok (.iload_n 3, 1) := by decide +kernel
theorem dX4_ifHome_25 : decode cX4_ifHome 25 = .ok (.iconst 0, 1) := by decide +kernel
theorem dX4_ifHome_26 : decode cX4_ifHome 26 = .ok (.iconst 2, 1) := by decide +kernel
theorem dX4_ifHome_27 : decode cX4_ifHome 27 = .ok (.invokestatic 29, 3) := by decide +kernel
theorem dX4_ifHome_30 : decode cX4_ifHome 30 = .ok (.ifCond .eq 7, 3) := by decide +kernel
theorem dX4_ifHome_33 : decode cX4_ifHome 33 = .ok (.iconst 0, 1) := by decide +kernel
theorem dX4_ifHome_34 : decode cX4_ifHome 34 = .ok (.goto 4, 3) := by decide +kernel
theorem dX4_ifHome_37 : decode cX4_ifHome 37 = .ok (.iconst 2, 1) := by decide +kernel
theorem dX4_ifHome_38 : decode cX4_ifHome 38 = .ok (.putfield 25, 3) := by decide +kernel
theorem dX4_ifHome_41 : decode cX4_ifHome 41 = .ok (.aload_n 0, 1) := by decide +kernel
theorem dX4_ifHome_42 : decode cX4_ifHome 42 = .ok (.getfield 25, 3) := by decide +kernel
theorem dX4_ifHome_45 : decode cX4_ifHome 45 = .ok (.ifCond .le 7, 3) := by decide +kernel
theorem dX4_ifHome_48 : decode cX4_ifHome 48 = .ok (.iconst 0, 1) := by decide +kernel
theorem dX4_ifHome_49 : decode cX4_ifHome 49 = .ok (.goto 10, 3) := by decide +kernel
theorem dX4_ifHome_52 : decode cX4_ifHome 52 = .ok (.aload_n 0, 1) := by decide +kernel
theorem dX4_ifHome_53 : decode cX4_ifHome 53 = .ok (.iload_n 1, 1) := by decide +kernel
theorem dX4_ifHome_54 : decode cX4_ifHome 54 = .ok (.iload_n 2, 1) := by decide +kernel
theorem dX4_ifHome_55 : decode cX4_ifHome 55 = .ok (.iload_n 3, 1) := by decide +kernel
theorem dX4_ifHome_56 : decode cX4_ifHome 56 = .ok (.invokevirtual 168, 3) := by decide +kernel
theorem dX4_ifHome_59 : decode cX4_ifHome 59 = .ok (.ireturn, 1) := by decide +kernel
set_option maxRecDepth 20000 in
theorem ggX4_findHole_X4_isOpen : GoodIn wsX4_findHole wsX4_isOpen := goodIn_r _ [5, 6, 22, 23, 24, 25, 26, 27, 28, 29, 30, 31, 32, 33] (by decide +kernel) (by decide +kernel)
set_option maxRecDepth 20000 in
theorem gX4_findHole_X4_isOpen : GoodIn wsX4_findHole (wsV RX4 41 RX4 yX4_isOpen wsX4_isOpen) := goodIn_app (goodIn_of _ (by decide +kernel)) ggX4_findHole_X4_isOpen
set_option maxRecDepth 20000 in
theorem ggX4_findHole_X4_ownerOf : GoodIn wsX4_findHole wsX4_ownerOf := goodIn_r _ [10, 11, 12, 13, 4, 14, 15, 16, 17, 18, 19, 20, 21, 6, 22, 23, 24, 25, 26, 27, 28, 29, 30, 31, 32, 33] (by decide +kernel) (by decide +kernel)
set_option maxRecDepth 20000 in
theorem gX4_findHole_X4_ownerOf : GoodIn wsX4_findHole (wsV RX4 94 RX4 yX4_ownerOf wsX4_ownerOf) := goodIn_app (goodIn_of _ (by decide +kernel)) ggX4_findHole_X4_ownerOf
theorem dX4_findHole_0 : decode cX4_findHole 0 = .ok (.iconst (-1), 1) := by decide +kernel
theorem dX4_findHole_1 : decode cX4_findHole 1 = .ok (.istore_n 1, 1) := by decide +kernel
theorem dX4_findHole_2 : decode cX4_findHole 2 = .ok (.bipush 23, 2) := by decide +kernel
theorem dX4_findHole_4 : decode cX4_findHole 4 = .ok (.istore_n 2, 1) := by decide +kernel
theorem dX4_findHole_5 : decode cX4_findHole 5 = .ok (.iload_n 2, 1) := by decide +kernel
theorem dX4_findHole_6 : decode cX4_findHole 6 = .ok (.ifCond .lt 31, 3) := by decide +kernel
theorem dX4_findHole_9 : decode cX4_findHole 9 = .ok (.aload_n 0, 1) := by decide +kernel
theorem dX4_findHole_10 : decode cX4_findHole 10 = .ok (.iload_n 2, 1) := by decide +kernel
theorem dX4_findHole_11 : decode cX4_findHole 11 = .ok (.invokevirtual 41, 3) := by decide +kernel
theorem dX4_findHole_14 : decode cX4_findHole 14 = .ok (.ifCond .eq 15, 3) := by decide +kernel
theorem dX4_findHole_17 : decode cX4_findHole 17 = .ok (.aload_n 0, 1) := by decide +kernel
theorem dX4_findHole_18 : decode cX4_findHole 18 = .ok (.iload_n 2, 1) := by decide +kernel
theorem dX4_findHole_19 : decode cX4_findHole 19 = .ok (.invokevirtual 94, 3) := by decide +kernel
theorem dX4_findHole_22 : decode cX4_findHole 22 = .ok (.ifCond .ge 7, 3) := by decide +kernel
theorem dX4_findHole_25 : decode cX4_findHole 25 = .ok (.iload_n 2, 1) := by decide +kernel
theorem dX4_findHole_26 : decode cX4_findHole 26 = .ok (.goto 4, 3) := by decide +kernel
theorem dX4_findHole_29 : decode cX4_findHole 29 = .ok (.iload_n 1, 1) := by decide +kernel
theorem dX4_findHole_30 : decode cX4_findHole 30 = .ok (.istore_n 1, 1) := by decide +kernel
theorem dX4_findHole_31 : decode cX4_findHole 31 = .ok (.iinc 2 (-1), 3) := by decide +kernel
theorem dX4_findHole_34 : decode cX4_findHole 34 = .ok (.goto (-29), 3) := by decide +kernel
theorem dX4_findHole_37 : decode cX4_findHole 37 = .ok (.iload_n 1, 1) := by decide +kernel
theorem dX4_findHole_38 : decode cX4_findHole 38 = .ok (.ireturn, 1) := by decide +kernel
set_option maxRecDepth 20000 in
theorem ggX4_freeHole_X4_findHole : GoodIn wsX4_freeHole wsX4_findHole := goodIn_r _ [6, 7, 8, 9, 5, 10, 11, 12, 13, 14, 15, 16, 17, 18, 19, 20, 21, 22, 23, 24, 25, 26, 27, 28, 29, 30, 31, 32, 33, 34, 35, 36, 37, 38] (by decide +kernel) (by decide +kernel)
set_option maxRecDepth 20000 in
theorem gX4_freeHole_X4_findHole : GoodIn wsX4_freeHole (wsV RX4 171 RX4 yX4_findHole wsX4_findHole) := goodIn_app (goodIn_of _ (by decide +kernel)) ggX4_freeHole_X4_findHole
theorem dX4_freeHole_0 : decode cX4_freeHole 0 = .ok (.aload_n 0, 1) := by decide +kernel
theorem dX4_freeHole_1 : decode cX4_freeHole 1 = .ok (.iconst 0, 1) := by decide +kernel
theorem dX4_freeHole_2 : decode cX4_freeHole 2 = .ok (.putfield 25, 3) := by decide +kernel
theorem dX4_freeHole_5 : decode cX4_freeHole 5 = .ok (.aload_n 0, 1) := by decide +kernel
theorem dX4_freeHole_6 : decode cX4_freeHole 6 = .ok (.invokevirtual 171, 3) := by decide +kernel
theorem dX4_freeHole_9 : decode cX4_freeHole 9 = .ok (.ireturn, 1) := by decide +kernel
set_option maxRecDepth 20000 in
theorem ggX4_inHolesIf_X4_putAside : GoodIn wsX4_inHolesIf wsX4_putAside := goodIn_r _ [5, 6, 7, 62, 63, 64, 65, 66, 67, 68, 69, 70, 71, 72, 73] (by decide +kernel) (by decide +kernel)
set_option maxRecDepth 20000 in
theorem gX4_inHolesIf_X4_putAside : GoodIn wsX4_inHolesIf (wsV RX4 162 RX4 yX4_putAside wsX4_putAside) := goodIn_app (goodIn_of _ (by decide +kernel)) ggX4_inHolesIf_X4_putAside
set_option maxRecDepth 20000 in
theorem ggX4_inHolesIf_X4_isDove : GoodIn wsX4_inHolesIf wsX4_isDove := goodIn_r _ [11, 12, 13, 4, 14, 15, 16, 17, 18, 7, 62, 63, 64, 65, 66, 67, 68, 69, 70, 71, 72, 73] (by decide +kernel) (by decide +kernel)
set_option maxRecDepth 20000 in
theorem gX4_inHolesIf_X4_isDove : GoodIn wsX4_inHolesIf (wsV RX4 37 RX4 yX4_isDove wsX4_isDove) := goodIn_app (goodIn_of _ (by decide +kernel)) ggX4_inHolesIf_X4_isDove
set_option maxRecDepth 20000 in
theorem ggX4_inHolesIf_X4_of : GoodIn wsX4_inHolesIf wsX4_of := goodIn_r _ [18, 7, 62, 63, 64, 65, 66, 67, 68, 69, 70, 71, 72, 73] (by decide +kernel) (by decide +kernel)
set_option maxRecDepth 20000 in
theorem gX4_inHolesIf_X4_of : GoodIn wsX4_inHolesIf (wsV RX4 33 RX4 yX4_of wsX4_of) := goodIn_app (goodIn_of _ (by decide +kernel)) ggX4_inHolesIf_X4_of
set_option maxRecDepth 20000 in
theorem ggX4_inHolesIf_X4_doHome : GoodIn wsX4_inHolesIf wsX4_doHome := goodIn_r _ [22, 7, 15, 16, 17, 4, 18, 23, 24, 25, 26, 27, 28, 29, 30, 31, 32, 33, 34, 8, 9, 10, 11, 12, 13, 14, 35, 36, 37, 38, 39, 40, 41, 42, 43, 44, 45, 46, 47, 48, 49, 50, 51, 52, 53, 62, 63, 64, 65, 66, 67, 68, 69, 70, 71, 72, 73] (by decide +kernel) (by decide +kernel)
set_option maxRecDepth 20000 in
theorem gX4_inHolesIf_X4_doHome : GoodIn wsX4_inHolesIf (wsV RX4 81 RX4 yX4_doHome wsX4_doHome) := goodIn_app (goodIn_of _ (by decide +kernel)) ggX4_inHolesIf_X4_doHome
set_option maxRecDepth 20000 in
theorem ggX4_inHolesIf_X4_dovesAt : GoodIn wsX4_inHolesIf wsX4_dovesAt := goodIn_r _ [57, 8, 9, 10, 4, 11, 12, 13, 14, 15, 16, 17, 18, 7, 62, 63, 64, 65, 66, 67, 68, 69, 70, 71, 72, 73] (by decide +kernel) (by decide +kernel)
set_option maxRecDepth 20000 in
theorem gX4_inHolesIf_X4_dovesAt : GoodIn wsX4_inHolesIf (wsV RX4 84 RX4 yX4_dovesAt wsX4_dovesAt) := goodIn_app (goodIn_of _ (by decide +kernel)) ggX4_inHolesIf_X4_dovesAt
set_option maxRecDepth 20000 in
theorem ggX4_inHolesIf_X4_putBack : GoodIn wsX4_inHolesIf wsX4_putBack := goodIn_r _ [61, 7, 6, 62, 63, 64, 65, 66, 67, 68, 69, 70, 71, 72, 73] (by decide +kernel) (by decide +kernel)
set_option maxRecDepth 20000 in
theorem gX4_inHolesIf_X4_putBack : GoodIn wsX4_inHolesIf (wsV RX4 165 RX4 yX4_putBack wsX4_putBack) := goodIn_app (goodIn_of _ (by decide +kernel)) ggX4_inHolesIf_X4_putBack
theorem dX4_inHolesIf_0 : decode cX4_inHolesIf 0 = .ok (.aload_n 0, 1) := by decide +kernel
theorem dX4_inHolesIf_1 : decode cX4_inHolesIf 1 = .ok (.invokevirtual 162, 3) := by decide +kernel
theorem dX4_inHolesIf_4 : decode cX4_inHolesIf 4 = .ok (.iconst 0, 1) := by decide +kernel
theorem dX4_inHolesIf_5 : decode cX4_inHolesIf 5 = .ok (.istore_n 2, 1) := by decide +kernel
theorem dX4_inHolesIf_6 : decode cX4_inHolesIf 6 = .ok (.iload_n 2, 1) := by decide +kernel
theorem dX4_inHolesIf_7 : decode cX4_inHolesIf 7 = .ok (.bipush 16, 2) := by decide +kernel
theorem dX4_inHolesIf_9 : decode cX4_inHolesIf 9 = .ok (.if_icmp .ge 34, 3) := by decide +kernel
theorem dX4_inHolesIf_12 : decode cX4_inHolesIf 12 = .ok (.aload_n 0, 1) := by decide +kernel
theorem dX4_inHolesIf_13 : decode cX4_inHolesIf 13 = .ok (.iload_n 2, 1) := by decide +kernel
theorem dX4_inHolesIf_14 : decode cX4_inHolesIf 14 = .ok (.invokevirtual 37, 3) := by decide +kernel
theorem dX4_inHolesIf_17 : decode cX4_inHolesIf 17 = .ok (.ifCond .eq 20, 3) := by decide +kernel
theorem dX4_inHolesIf_20 : decode cX4_inHolesIf 20 = .ok (.aload_n 0, 1) := by decide +kernel
theorem dX4_inHolesIf_21 : decode cX4_inHolesIf 21 = .ok (.iload_n 2, 1) := by decide +kernel
theorem dX4_inHolesIf_22 : decode cX4_inHolesIf 22 = .ok (.iconst 3, 1) := by decide +kernel
theorem dX4_inHolesIf_23 : decode cX4_inHolesIf 23 = .ok (.invokevirtual 33, 3) := by decide +kernel
theorem dX4_inHolesIf_26 : decode cX4_inHolesIf 26 = .ok (.iconst (-1), 1) := by decide +kernel
theorem dX4_inHolesIf_27 : decode cX4_inHolesIf 27 = .ok (.if_icmp .ne 10, 3) := by decide +kernel
theorem dX4_inHolesIf_30 : decode cX4_inHolesIf 30 = .ok (.aload_n 0, 1) := by decide +kernel
theorem dX4_inHolesIf_31 : decode cX4_inHolesIf 31 = .ok (.iload_n 2, 1) := by decide +kernel
theorem dX4_inHolesIf_32 : decode cX4_inHolesIf 32 = .ok (.iload_n 1, 1) := by decide +kernel
theorem dX4_inHolesIf_33 : decode cX4_inHolesIf 33 = .ok (.invokevirtual 81, 3) := by decide +kernel
theorem dX4_inHolesIf_36 : decode cX4_inHolesIf 36 = .ok (.pop, 1) := by decide +kernel
theorem dX4_inHolesIf_37 : decode cX4_inHolesIf 37 = .ok (.iinc 2 1, 3) := by decide +kernel
theorem dX4_inHolesIf_40 : decode cX4_inHolesIf 40 = .ok (.goto (-34), 3) := by decide +kernel
theorem dX4_inHolesIf_43 : decode cX4_inHolesIf 43 = .ok (.aload_n 0, 1) := by decide +kernel
theorem dX4_inHolesIf_44 : decode cX4_inHolesIf 44 = .ok (.iconst 0, 1) := by decide +kernel
theorem dX4_inHolesIf_45 : decode cX4_inHolesIf 45 = .ok (.bipush 23, 2) := by decide +kernel
theorem dX4_inHolesIf_47 : decode cX4_inHolesIf 47 = .ok (.invokevirtual 84, 3) := by decide +kernel
theorem dX4_inHolesIf_50 : decode cX4_inHolesIf 50 = .ok (.istore_n 2, 1) := by decide +kernel
theorem dX4_inHolesIf_51 : decode cX4_inHolesIf 51 = .ok (.aload_n 0, 1) := by decide +kernel
theorem dX4_inHolesIf_52 : decode cX4_inHolesIf 52 = .ok (.invokevirtual 165, 3) := by decide +kernel
theorem dX4_inHolesIf_55 : decode cX4_inHolesIf 55 = .ok (.iload_n 2, 1) := by decide +kernel
theorem dX4_inHolesIf_56 : decode cX4_inHolesIf 56 = .ok (.ireturn, 1) := by decide +kernel
set_option maxRecDepth 20000 in
theorem ggX4_asGood_X4_inHolesIf : GoodIn wsX4_asGood wsX4_inHolesIf := goodIn_r _ [6, 7, 8, 9, 5, 10, 11, 1, 12, 13, 14, 15, 16, 17, 18, 19, 20, 21, 22, 23, 24, 25, 26, 27, 28, 29, 30, 31, 32, 33, 34, 35, 36, 37, 38, 39, 40, 41, 42, 43, 44, 45, 46, 47, 48, 49, 50, 51, 52, 53, 54, 55, 56, 57, 58, 59, 60, 61, 62, 63, 64, 65, 66, 67, 68, 69, 70, 71, 72, 73, 74, 75, 76, 77] (by decide +kernel) (by decide +kernel)
set_option maxRecDepth 20000 in
theorem gX4_asGood_X4_inHolesIf : GoodIn wsX4_asGood (wsV RX4 174 RX4 yX4_inHolesIf wsX4_inHolesIf) := goodIn_app (goodIn_of _ (by decide +kernel)) ggX4_asGood_X4_inHolesIf
theorem dX4_asGood_0 : decode cX4_asGood 0 = .ok (.aload_n 0, 1) := by decide +kernel
theorem dX4_asGood_1 : decode cX4_asGood 1 = .ok (.sipush 1439, 3) := by decide +kernel
theorem dX4_asGood_4 : decode cX4_asGood 4 = .ok (.invokevirtual 174, 3) := by decide +kernel
theorem dX4_asGood_7 : decode cX4_asGood 7 = .ok (.aload_n 0, 1) := by decide +kernel
theorem dX4_asGood_8 : decode cX4_asGood 8 = .ok (.aload_n 0, 1) := by decide +kernel
theorem dX4_asGood_9 : decode cX4_asGood 9 = .ok (.getfield 7, 3) := by decide +kernel
theorem dX4_asGood_12 : decode cX4_asGood 12 = .ok (.sipush 168, 3) := by decide +kernel
theorem dX4_asGood_15 : decode cX4_asGood 15 = .ok (.iaload, 1) := by decide +kernel
theorem dX4_asGood_16 : decode cX4_asGood 16 = .ok (.invokevirtual 174, 3) := by decide +kernel
theorem dX4_asGood_19 : decode cX4_asGood 19 = .ok (.if_icmp .ge 7, 3) := by decide +kernel
theorem dX4_asGood_22 : decode cX4_asGood 22 = .ok (.iconst 0, 1) := by decide +kernel
theorem dX4_asGood_23 : decode cX4_asGood 23 = .ok (.goto 4, 3) := by decide +kernel
theorem dX4_asGood_26 : decode cX4_asGood 26 = .ok (.iconst 1, 1) := by decide +kernel
theorem dX4_asGood_27 : decode cX4_asGood 27 = .ok (.ireturn, 1) := by decide +kernel
set_option maxRecDepth 20000 in
theorem ggX4_lateIsAsGood_X4_asGood : GoodIn wsX4_lateIsAsGood wsX4_asGood := goodIn_r _ [6, 7, 8, 9, 10, 5, 11, 12, 13, 14, 15, 16, 17, 18, 19, 20, 21, 22, 23, 24, 25, 26, 27, 28, 29, 30, 31, 32, 33, 34, 35, 36, 37, 38, 39, 40, 41, 42, 43, 44, 45, 46, 47, 48, 49, 50, 51, 52, 53, 54, 55, 56, 57, 58, 59, 60, 61, 62, 63, 64, 65, 66, 67, 68, 69, 70, 71, 72, 73, 74, 75, 76, 77, 78, 79, 80, 81, 82] (by decide +kernel) (by decide +kernel)
set_option maxRecDepth 20000 in
theorem gX4_lateIsAsGood_X4_asGood : GoodIn wsX4_lateIsAsGood (wsV RX4 177 RX4 yX4_asGood wsX4_asGood) := goodIn_app (goodIn_of _ (by decide +kernel)) ggX4_lateIsAsGood_X4_asGood
theorem dX4_lateIsAsGood_0 : decode cX4_lateIsAsGood 0 = .ok (.aload_n 0, 1) := by decide +kernel
theorem dX4_lateIsAsGood_1 : decode cX4_lateIsAsGood 1 = .ok (.iconst 0, 1) := by decide +kernel
theorem dX4_lateIsAsGood_2 : decode cX4_lateIsAsGood 2 = .ok (.putfield 25, 3) := by decide +kernel
theorem dX4_lateIsAsGood_5 : decode cX4_lateIsAsGood 5 = .ok (.aload_n 0, 1) := by decide +kernel
theorem dX4_lateIsAsGood_6 : decode cX4_lateIsAsGood 6 = .ok (.invokevirtual 177, 3) := by decide +kernel
theorem dX4_lateIsAsGood_9 : decode cX4_lateIsAsGood 9 = .ok (.ireturn, 1) := by decide +kernel
set_option maxRecDepth 20000 in
theorem ggX4_share_X4_isDove : GoodIn wsX4_share wsX4_isDove := goodIn_r _ [5, 6, 7, 4, 8, 9, 10, 11, 12, 13, 18, 19, 20, 21, 22, 23, 24, 25, 26, 27, 28, 29] (by decide +kernel) (by decide +kernel)
set_option maxRecDepth 20000 in
theorem gX4_share_X4_isDove : GoodIn wsX4_share (wsV RX4 37 RX4 yX4_isDove wsX4_isDove) := goodIn_app (goodIn_of _ (by decide +kernel)) ggX4_share_X4_isDove
set_option maxRecDepth 20000 in
theorem ggX4_share_X4_of : GoodIn wsX4_share wsX4_of := goodIn_r _ [12, 13, 18, 19, 20, 21, 22, 23, 24, 25, 26, 27, 28, 29] (by decide +kernel) (by decide +kernel)
set_option maxRecDepth 20000 in
theorem gX4_share_X4_of : GoodIn wsX4_share (wsV RX4 33 RX4 yX4_of wsX4_of) := goodIn_app (goodIn_of _ (by decide +kernel)) ggX4_share_X4_of
set_option maxRecDepth 20000 in
theorem ggX4_share_X4_allDoves : GoodIn wsX4_share wsX4_allDoves := goodIn_r _ [17, 9, 10, 11, 4, 12, 13, 18, 19, 20, 21, 22, 23, 24, 25, 26, 27, 28, 29] (by decide +kernel) (by decide +kernel)
set_option maxRecDepth 20000 in
theorem gX4_share_X4_allDoves : GoodIn wsX4_share (wsV RX4 91 RX4 yX4_allDoves wsX4_allDoves) := goodIn_app (goodIn_of _ (by decide +kernel)) ggX4_share_X4_allDoves
theorem dX4_share_0 : decode cX4_share 0 = .ok (.iconst 0, 1) := by decide +kernel
theorem dX4_share_1 : decode cX4_share 1 = .ok (.istore_n 1, 1) := by decide +kernel
theorem dX4_share_2 : decode cX4_share 2 = .ok (.iconst 0, 1) := by decide +kernel
theorem dX4_share_3 : decode cX4_share 3 = .ok (.istore_n 2, 1) := by decide +kernel
theorem dX4_share_4 : decode cX4_share 4 = .ok (.iload_n 2, 1) := by decide +kernel
theorem dX4_share_5 : decode cX4_share 5 = .ok (.bipush 16, 2) := by decide +kernel
theorem dX4_share_7 : decode cX4_share 7 = .ok (.if_icmp .ge 40, 3) := by decide +kernel
theorem dX4_share_10 : decode cX4_share 10 = .ok (.iload_n 1, 1) := by decide +kernel
theorem dX4_share_11 : decode cX4_share 11 = .ok (.aload_n 0, 1) := by decide +kernel
theorem dX4_share_12 : decode cX4_share 12 = .ok (.iload_n 2, 1) := by decide +kernel
theorem dX4_share_13 : decode cX4_share 13 = .ok (.invokevirtual 37, 3) := by decide +kernel
theorem dX4_share_16 : decode cX4_share 16 = .ok (.ifCond .eq 22, 3) := by decide +kernel
theorem dX4_share_19 : decode cX4_share 19 = .ok (.aload_n 0, 1) := by decide +kernel
theorem dX4_share_20 : decode cX4_share 20 = .ok (.iload_n 2, 1) := by decide +kernel
theorem dX4_share_21 : decode cX4_share 21 = .ok (.iconst 3, 1) := by decide +kernel
theorem dX4_share_22 : decode cX4_share 22 = .ok (.invokevirtual 33, 3) := by decide +kernel
theorem dX4_share_25 : decode cX4_share 25 = .ok (.aload_n 0, 1) := by decide +kernel
theorem dX4_share_26 : decode cX4_share 26 = .ok (.iload_n 2, 1) := by decide +kernel
theorem dX4_share_27 : decode cX4_share 27 = .ok (.iconst 1, 1) := by decide +kernel
theorem dX4_share_28 : decode cX4_share 28 = .ok (.invokevirtual 33, 3) := by decide +kernel
theorem dX4_share_31 : decode cX4_share 31 = .ok (.if_icmp .ne 7, 3) := by decide +kernel
theorem dX4_share_34 : decode cX4_share 34 = .ok (.iconst 1, 1) := by decide +kernel
theorem dX4_share_35 : decode cX4_share 35 = .ok (.goto 4, 3) := by decide +kernel
theorem dX4_share_38 : decode cX4_share 38 = .ok (.iconst 0, 1) := by decide +kernel
theorem dX4_share_39 : decode cX4_share 39 = .ok (.iadd, 1) := by decide +kernel
theorem dX4_share_40 : decode cX4_share 40 = .ok (.istore_n 1, 1) := by decide +kernel
theorem dX4_share_41 : decode cX4_share 41 = .ok (.iinc 2 1, 3) := by decide +kernel
theorem dX4_share_44 : decode cX4_share 44 = .ok (.goto (-40), 3) := by decide +kernel
theorem dX4_share_47 : decode cX4_share 47 = .ok (.aload_n 0, 1) := by decide +kernel
theorem dX4_share_48 : decode cX4_share 48 = .ok (.invokevirtual 91, 3) := by decide +kernel
theorem dX4_share_51 : decode cX4_share 51 = .ok (.ifCond .ne 7, 3) := by decide +kernel
theorem dX4_share_54 : decode cX4_share 54 = .ok (.dconst 1, 1) := by decide +kernel
theorem dX4_share_55 : decode cX4_share 55 = .ok (.goto 11, 3) := by decide +kernel
theorem dX4_share_58 : decode cX4_share 58 = .ok (.iload_n 1, 1) := by decide +kernel
theorem dX4_share_59 : decode cX4_share 59 = .ok (.i2d, 1) := by decide +kernel
theorem dX4_share_60 : decode cX4_share 60 = .ok (.aload_n 0, 1) := by decide +kernel
theorem dX4_share_61 : decode cX4_share 61 = .ok (.invokevirtual 91, 3) := by decide +kernel
theorem dX4_share_64 : decode cX4_share 64 = .ok (.i2d, 1) := by decide +kernel
theorem dX4_share_65 : decode cX4_share 65 = .ok (.ddiv, 1) := by decide +kernel
theorem dX4_share_66 : decode cX4_share 66 = .ok (.dreturn, 1) := by decide +kernel
set_option maxRecDepth 20000 in
theorem ggX4_homeShare_X4_share : GoodIn wsX4_homeShare wsX4_share := goodIn_r _ [6, 7, 8, 9, 5, 10, 11, 12, 13, 14, 15, 16, 17, 18, 19, 20, 21, 22, 23, 24, 25, 26, 27, 28, 29, 30, 31, 32, 33, 34] (by decide +kernel) (by decide +kernel)
set_option maxRecDepth 20000 in
theorem gX4_homeShare_X4_share : GoodIn wsX4_homeShare (wsV RX4 180 RX4 yX4_share wsX4_share) := goodIn_app (goodIn_of _ (by decide +kernel)) ggX4_homeShare_X4_share
theorem dX4_homeShare_0 : decode cX4_homeShare 0 = .ok (.aload_n 0, 1) := by decide +kernel
theorem dX4_homeShare_1 : decode cX4_homeShare 1 = .ok (.iconst 0, 1) := by decide +kernel
theorem dX4_homeShare_2 : decode cX4_homeShare 2 = .ok (.putfield 25, 3) := by decide +kernel
theorem dX4_homeShare_5 : decode cX4_homeShare 5 = .ok (.aload_n 0, 1) := by decide +kernel
theorem dX4_homeShare_6 : decode cX4_homeShare 6 = .ok (.invokevirtual 180, 3) := by decide +kernel
theorem dX4_homeShare_9 : decode cX4_homeShare 9 = .ok (.dreturn, 1) := by decide +kernel
set_option maxRecDepth 20000 in
theorem ggX4_digest_X4_countNow : GoodIn wsX4_digest wsX4_countNow := goodIn_r _ [11, 4, 12, 13, 14, 10, 15, 16, 17, 18, 19, 20, 21, 22, 23, 24, 25, 26, 27, 28, 29, 30, 31, 32, 33, 34, 35, 36, 37, 38, 39, 40, 41, 42, 43, 132, 133, 134, 135, 136, 137, 138, 139, 140, 141, 142, 143] (by decide +kernel) (by decide +kernel)
set_option maxRecDepth 20000 in
theorem gX4_digest_X4_countNow : GoodIn wsX4_digest (wsV RX4 159 RX4 yX4_countNow wsX4_countNow) := goodIn_app (goodIn_of _ (by decide +kernel)) ggX4_digest_X4_countNow
set_option maxRecDepth 20000 in
theorem ggX4_digest_X4_isDove : GoodIn wsX4_digest wsX4_isDove := goodIn_r _ [31, 13, 14, 10, 15, 20, 21, 22, 23, 4, 132, 133, 134, 135, 136, 137, 138, 139, 140, 141, 142, 143] (by decide +kernel) (by decide +kernel)
set_option maxRecDepth 20000 in
theorem gX4_digest_X4_isDove : GoodIn wsX4_digest (wsV RX4 37 RX4 yX4_isDove wsX4_isDove) := goodIn_app (goodIn_of _ (by decide +kernel)) ggX4_digest_X4_isDove
set_option maxRecDepth 20000 in
theorem ggX4_digest_X4_doveNow : GoodIn wsX4_digest wsX4_doveNow := goodIn_r _ [47, 20, 21, 22, 10, 23, 4, 132, 133, 134, 135, 136, 137, 138, 139, 140, 141, 142, 143] (by decide +kernel) (by decide +kernel)
set_option maxRecDepth 20000 in
theorem gX4_digest_X4_doveNow : GoodIn wsX4_digest (wsV RX4 153 RX4 yX4_doveNow wsX4_doveNow) := goodIn_app (goodIn_of _ (by decide +kernel)) ggX4_digest_X4_doveNow
set_option maxRecDepth 20000 in
theorem ggX4_digest_X4_whyNoHome : GoodIn wsX4_digest wsX4_whyNoHome := goodIn_r _ [51, 4, 20, 21, 22, 10, 23, 132, 133, 134, 135, 136, 137, 138, 139, 140, 141, 142, 143] (by decide +kernel) (by decide +kernel)
set_option maxRecDepth 20000 in
theorem gX4_digest_X4_whyNoHome : GoodIn wsX4_digest (wsV RX4 78 RX4 yX4_whyNoHome wsX4_whyNoHome) := goodIn_app (goodIn_of _ (by decide +kernel)) ggX4_digest_X4_whyNoHome
set_option maxRecDepth 20000 in
theorem ggX4_digest_X4_homeIf : GoodIn wsX4_digest wsX4_homeIf := goodIn_r _ [55, 48, 49, 50, 10, 51, 4, 20, 21, 22, 23, 56, 57, 58, 59, 60, 24, 25, 26, 27, 28, 29, 30, 31, 13, 14, 15, 61, 62, 63, 64, 65, 66, 67, 68, 36, 37, 38, 39, 69, 70, 71, 72, 73, 74, 75, 76, 77, 78, 79, 80, 81, 82, 83, 84, 85, 86, 87, 88, 89, 90, 91, 92, 93, 94, 95, 132, 133, 134, 135, 136, 137, 138, 139, 140, 141, 142, 143] (by decide +kernel) (by decide +kernel)
set_option maxRecDepth 20000 in
theorem gX4_digest_X4_homeIf : GoodIn wsX4_digest (wsV RX4 168 RX4 yX4_homeIf wsX4_homeIf) := goodIn_app (goodIn_of _ (by decide +kernel)) ggX4_digest_X4_homeIf
set_option maxRecDepth 20000 in
theorem ggX4_digest_X4_holeNow : GoodIn wsX4_digest wsX4_holeNow := goodIn_r _ [99, 69, 70, 71, 10, 72, 28, 29, 30, 31, 13, 14, 15, 20, 21, 22, 23, 4, 100, 101, 102, 103, 36, 37, 38, 39, 132, 133, 134, 135, 136, 137, 138, 139, 140, 141, 142, 143] (by decide +kernel) (by decide +kernel)
set_option maxRecDepth 20000 in
theorem gX4_digest_X4_holeNow : GoodIn wsX4_digest (wsV RX4 156 RX4 yX4_holeNow wsX4_holeNow) := goodIn_app (goodIn_of _ (by decide +kernel)) ggX4_digest_X4_holeNow
set_option maxRecDepth 20000 in
theorem ggX4_digest_X4_findHole : GoodIn wsX4_digest wsX4_findHole := goodIn_r _ [107, 36, 37, 38, 10, 39, 4, 100, 101, 102, 103, 28, 29, 30, 31, 13, 14, 15, 20, 21, 22, 23, 132, 133, 134, 135, 136, 137, 138, 139, 140, 141, 142, 143] (by decide +kernel) (by decide +kernel)
set_option maxRecDepth 20000 in
theorem gX4_digest_X4_findHole : GoodIn wsX4_digest (wsV RX4 171 RX4 yX4_findHole wsX4_findHole) := goodIn_app (goodIn_of _ (by decide +kernel)) ggX4_digest_X4_findHole
set_option maxRecDepth 20000 in
theorem ggX4_digest_X4_asGood : GoodIn wsX4_digest wsX4_asGood := goodIn_r _ [111, 4, 112, 113, 114, 10, 115, 56, 57, 58, 59, 60, 28, 29, 30, 31, 13, 14, 15, 20, 21, 22, 23, 61, 62, 63, 64, 65, 66, 67, 68, 36, 37, 38, 39, 69, 70, 71, 72, 73, 74, 75, 76, 77, 78, 79, 80, 81, 82, 83, 84, 85, 86, 87, 88, 89, 90, 91, 24, 25, 26, 27, 92, 93, 94, 95, 132, 133, 134, 135, 136, 137, 138, 139, 140, 141, 142, 143] (by decide +kernel) (by decide +kernel)
set_option maxRecDepth 20000 in
theorem gX4_digest_X4_asGood : GoodIn wsX4_digest (wsV RX4 177 RX4 yX4_asGood wsX4_asGood) := goodIn_app (goodIn_of _ (by decide +kernel)) ggX4_digest_X4_asGood
set_option maxRecDepth 20000 in
theorem ggX4_digest_X4_share : GoodIn wsX4_digest wsX4_share := goodIn_r _ [119, 28, 29, 30, 10, 31, 13, 14, 15, 20, 21, 22, 23, 4, 16, 17, 18, 19, 132, 133, 134, 135, 136, 137, 138, 139, 140, 141, 142, 143] (by decide +kernel) (by decide +kernel)
set_option maxRecDepth 20000 in
theorem gX4_digest_X4_share : GoodIn wsX4_digest (wsV RX4 180 RX4 yX4_share wsX4_share) := goodIn_app (goodIn_of _ (by decide +kernel)) ggX4_digest_X4_share
set_option maxRecDepth 20000 in
theorem ggX4_digest_Jxe99ae_doubleToLongBits_ccdee : GoodIn wsX4_digest wsJxe99ae_doubleToLongBits_ccdee := goodIn_r _ [123, 124, 125, 126, 127, 128, 129, 130, 122, 131] (by decide +kernel) (by decide +kernel)
set_option maxRecDepth 20000 in
theorem gX4_digest_Jxe99ae_doubleToLongBits_ccdee : GoodIn wsX4_digest (va_wsS RX4 188 yJxe99ae_doubleToLongBits_ccdee wsJxe99ae_doubleToLongBits_ccdee) := goodIn_app (goodIn_of _ (by decide +kernel)) ggX4_digest_Jxe99ae_doubleToLongBits_ccdee
theorem dX4_digest_0 : decode cX4_digest 0 = .ok (.aload_n 0, 1) := by decide +kernel
theorem dX4_digest_1 : decode cX4_digest 1 = .ok (.iconst 0, 1) := by decide +kernel
theorem dX4_digest_2 : decode cX4_digest 2 = .ok (.putfield 25, 3) := by decide +kernel
theorem dX4_digest_5 : decode cX4_digest 5 = .ok (.ldc2_w 184, 3) := by decide +kernel
theorem dX4_digest_8 : decode cX4_digest 8 = .ok (.lstore_n 1, 1) := by decide +kernel
theorem dX4_digest_9 : decode cX4_digest 9 = .ok (.iconst 0, 1) := by decide +kernel
theorem dX4_digest_10 : decode cX4_digest 10 = .ok (.istore_n 3, 1) := by decide +kernel
theorem dX4_digest_11 : decode cX4_digest 11 = .ok (.iload_n 3, 1) := by decide +kernel
theorem dX4_digest_12 : decode cX4_digest 12 = .ok (.bipush 18, 2) := by decide +kernel
theorem dX4_digest_14 : decode cX4_digest 14 = .ok (.if_icmp .ge 22, 3) := by decide +kernel
theorem dX4_digest_17 : decode cX4_digest 17 = .ok (.ldc2_w 186, 3) := by decide +kernel
theorem dX4_digest_20 : decode cX4_digest 20 = .ok (.lload_n 1, 1) := by decide +kernel
theorem dX4_digest_21 : decode cX4_digest 21 = .ok (.lmul, 1) := by decide +kernel
theorem dX4_digest_22 : decode cX4_digest 22 = .ok (.aload_n 0, 1) := by decide +kernel
theorem dX4_digest_23 : decode cX4_digest 23 = .ok (.iload_n 3, 1) := by decide +kernel
theorem dX4_digest_24 : decode cX4_digest 24 = .ok (.invokevirtual 159, 3) := by decide +kernel
theorem dX4_digest_27 : decode cX4_digest 27 = .ok (.i2l, 1) := by decide +kernel
theorem dX4_digest_28 : decode cX4_digest 28 = .ok (.ladd, 1) := by decide +kernel
theorem dX4_digest_29 : decode cX4_digest 29 = .ok (.lstore_n 1, 1) := by decide +kernel
theorem dX4_digest_30 : decode cX4_digest 30 = .ok (.iinc 3 1, 3) := by decide +kernel
theorem dX4_digest_33 : decode cX4_digest 33 = .ok (.goto (-22), 3) := by decide +kernel
theorem dX4_digest_36 : decode cX4_digest 36 = .ok (.iconst 0, 1) := by decide +kernel
theorem dX4_digest_37 : decode cX4_digest 37 = .ok (.istore_n 3, 1) := by decide +kernel
theorem dX4_digest_38 : decode cX4_digest 38 = .ok (.iload_n 3, 1) := by decide +kernel
theorem dX4_digest_39 : decode cX4_digest 39 = .ok (.bipush 16, 2) := by decide +kernel
theorem dX4_digest_41 : decode cX4_digest 41 = .ok (.if_icmp .ge 106, 3) := by decide +kernel
theorem dX4_digest_44 : decode cX4_digest 44 = .ok (.aload_n 0, 1) := by decide +kernel
theorem dX4_digest_45 : decode cX4_digest 45 = .ok (.iload_n 3, 1) := by decide +kernel
theorem dX4_digest_46 : decode cX4_digest 46 = .ok (.invokevirtual 37, 3) := by decide +kernel
theorem dX4_digest_49 : decode cX4_digest 49 = .ok (.ifCond .eq 92, 3) := by decide +kernel
theorem dX4_digest_52 : decode cX4_digest 52 = .ok (.ldc2_w 186, 3) := by decide +kernel
theorem dX4_digest_55 : decode cX4_digest 55 = .ok (.lload_n 1, 1) := by decide +kernel
theorem dX4_digest_56 : decode cX4_digest 56 = .ok (.lmul, 1) := by decide +kernel
theorem dX4_digest_57 : decode cX4_digest 57 = .ok (.iload_n 3, 1) := by decide +kernel
theorem dX4_digest_58 : decode cX4_digest 58 = .ok (.i2l, 1) := by decide +kernel
theorem dX4_digest_59 : decode cX4_digest 59 = .ok (.ladd, 1) := by decide +kernel
theorem dX4_digest_60 : decode cX4_digest 60 = .ok (.lstore_n 1, 1) := by decide +kernel
theorem dX4_digest_61 : decode cX4_digest 61 = .ok (.iconst 0, 1) := by decide +kernel
theorem dX4_digest_62 : decode cX4_digest 62 = .ok (.istore 4, 2) := by decide +kernel
theorem dX4_digest_64 : decode cX4_digest 64 = .ok (.iload 4, 2) := by decide +kernel
theorem dX4_digest_66 : decode cX4_digest 66 = .ok (.bipush 8, 2) := by decide +kernel
theorem dX4_digest_68 : decode cX4_digest 68 = .ok (.if_icmp .ge 24, 3) := by decide +kernel
theorem dX4_digest_71 : decode cX4_digest 71 = .ok (.ldc2_w 186, 3) := by decide +kernel
theorem dX4_digest_74 : decode cX4_digest 74 = .ok (.lload_n 1, 1) := by decide +kernel
theorem dX4_digest_75 : decode cX4_digest 75 = .ok (.lmul, 1) := by decide +kernel
theorem dX4_digest_76 : decode cX4_digest 76 = .ok (.aload_n 0, 1) := by decide +kernel
theorem dX4_digest_77 : decode cX4_digest 77 = .ok (.iload_n 3, 1) := by decide +kernel
theorem dX4_digest_78 : decode cX4_digest 78 = .ok (.iload 4, 2) := by decide +kernel
theorem dX4_digest_80 : decode cX4_digest 80 = .ok (.invokevirtual 153, 3) := by decide +kernel
theorem dX4_digest_83 : decode cX4_digest 83 = .ok (.i2l, 1) := by decide +kernel
theorem dX4_digest_84 : decode cX4_digest 84 = .ok (.ladd, 1) := by decide +kernel
theorem dX4_digest_85 : decode cX4_digest 85 = .ok (.lstore_n 1, 1) := by decide +kernel
theorem dX4_digest_86 : decode cX4_digest 86 = .ok (.iinc 4 1, 3) := by decide +kernel
theorem dX4_digest_89 : decode cX4_digest 89 = .ok (.goto (-25), 3) := by decide +kernel
theorem dX4_digest_92 : decode cX4_digest 92 = .ok (.ldc2_w 186, 3) := by decide +kernel
theorem dX4_digest_95 : decode cX4_digest 95 = .ok (.lload_n 1, 1) := by decide +kernel
theorem dX4_digest_96 : decode cX4_digest 96 = .ok (.lmul, 1) := by decide +kernel
theorem dX4_digest_97 : decode cX4_digest 97 = .ok (.aload_n 0, 1) := by decide +kernel
theorem dX4_digest_98 : decode cX4_digest 98 = .ok (.iload_n 3, 1) := by decide +kernel
theorem dX4_digest_99 : decode cX4_digest 99 = .ok (.sipush 1439, 3) := by decide +kernel
theorem dX4_digest_102 : decode cX4_digest 102 = .ok (.invokevirtual 78, 3) := by decide +kernel
theorem dX4_digest_105 : decode cX4_digest 105 = .ok (.i2l, 1) := by decide +kernel
theorem dX4_digest_106 : decode cX4_digest 106 = .ok (.ladd, 1) := by decide +kernel
theorem dX4_digest_107 : decode cX4_digest 107 = .ok (.lstore_n 1, 1) := by decide +kernel
theorem dX4_digest_108 : decode cX4_digest 108 = .ok (.iconst 0, 1) := by decide +kernel
theorem dX4_digest_109 : decode cX4_digest 109 = .ok (.istore 4, 2) := by decide +kernel
theorem dX4_digest_111 : decode cX4_digest 111 = .ok (.iload 4, 2) := by decide +kernel
theorem dX4_digest_113 : decode cX4_digest 113 = .ok (.iconst 3, 1) := by decide +kernel
theorem dX4_digest_114 : decode cX4_digest 114 = .ok (.if_icmp .ge 27, 3) := by decide +kernel
theorem dX4_digest_117 : decode cX4_digest 117 = .ok (.ldc2_w 186, 3) := by decide +kernel
theorem dX4_digest_120 : decode cX4_digest 120 = .ok (.lload_n 1, 1) := by decide +kernel
theorem dX4_digest_121 : decode cX4_digest 121 = .ok (.lmul, 1) := by decide +kernel
theorem dX4_digest_122 : decode cX4_digest 122 = .ok (.aload_n 0, 1) := by decide +kernel
theorem dX4_digest_123 : decode cX4_digest 123 = .ok (.iload_n 3, 1) := by decide +kernel
theorem dX4_digest_124 : decode cX4_digest 124 = .ok (.sipush 1439, 3) := by decide +kernel
theorem dX4_digest_127 : decode cX4_digest 127 = .ok (.iload 4, 2) := by decide +kernel
theorem dX4_digest_129 : decode cX4_digest 129 = .ok (.invokevirtual 168, 3) := by decide +kernel
theorem dX4_digest_132 : decode cX4_digest 132 = .ok (.i2l, 1) := by decide +kernel
theorem dX4_digest_133 : decode cX4_digest 133 = .ok (.ladd, 1) := by decide +kernel
theorem dX4_digest_134 : decode cX4_digest 134 = .ok (.lstore_n 1, 1) := by decide +kernel
theorem dX4_digest_135 : decode cX4_digest 135 = .ok (.iinc 4 1, 3) := by decide +kernel
theorem dX4_digest_138 : decode cX4_digest 138 = .ok (.goto (-27), 3) := by decide +kernel
theorem dX4_digest_141 : decode cX4_digest 141 = .ok (.iinc 3 1, 3) := by decide +kernel
theorem dX4_digest_144 : decode cX4_digest 144 = .ok (.goto (-106), 3) := by decide +kernel
theorem dX4_digest_147 : decode cX4_digest 147 = .ok (.iconst 0, 1) := by decide +kernel
theorem dX4_digest_148 : decode cX4_digest 148 = .ok (.istore_n 3, 1) := by decide +kernel
theorem dX4_digest_149 : decode cX4_digest 149 = .ok (.iload_n 3, 1) := by decide +kernel
theorem dX4_digest_150 : decode cX4_digest 150 = .ok (.bipush 72, 2) := by decide +kernel
theorem dX4_digest_152 : decode cX4_digest 152 = .ok (.if_icmp .ge 27, 3) := by decide +kernel
theorem dX4_digest_155 : decode cX4_digest 155 = .ok (.ldc2_w 186, 3) := by decide +kernel
theorem dX4_digest_158 : decode cX4_digest 158 = .ok (.lload_n 1, 1) := by decide +kernel
theorem dX4_digest_159 : decode cX4_digest 159 = .ok (.lmul, 1) := by decide +kernel
theorem dX4_digest_160 : decode cX4_digest 160 = .ok (.aload_n 0, 1) := by decide +kernel
theorem dX4_digest_161 : decode cX4_digest 161 = .ok (.iload_n 3, 1) := by decide +kernel
theorem dX4_digest_162 : decode cX4_digest 162 = .ok (.iconst 3, 1) := by decide +kernel
theorem dX4_digest_163 : decode cX4_digest 163 = .ok (.idiv, 1) := by decide +kernel
theorem dX4_digest_164 : decode cX4_digest 164 = .ok (.iload_n 3, 1) := by decide +kernel
theorem dX4_digest_165 : decode cX4_digest 165 = .ok (.iconst 3, 1) := by decide +kernel
theorem dX4_digest_166 : decode cX4_digest 166 = .ok (.irem, 1) := by decide +kernel
theorem dX4_digest_167 : decode cX4_digest 167 = .ok (.invokevirtual 156, 3) := by decide +kernel
theorem dX4_digest_170 : decode cX4_digest 170 = .ok (.i2l, 1) := by decide +kernel
theorem dX4_digest_171 : decode cX4_digest 171 = .ok (.ladd, 1) := by decide +kernel
theorem dX4_digest_172 : decode cX4_digest 172 = .ok (.lstore_n 1, 1) := by decide +kernel
theorem dX4_digest_173 : decode cX4_digest 173 = .ok (.iinc 3 1, 3) := by decide +kernel
theorem dX4_digest_176 : decode cX4_digest 176 = .ok (.goto (-27), 3) := by decide +kernel
theorem dX4_digest_179 : decode cX4_digest 179 = .ok (.iconst 0, 1) := by decide +kernel
theorem dX4_digest_180 : decode cX4_digest 180 = .ok (.istore_n 3, 1) := by decide +kernel
theorem dX4_digest_181 : decode cX4_digest 181 = .ok (.iload_n 3, 1) := by decide +kernel
theorem dX4_digest_182 : decode cX4_digest 182 = .ok (.iconst 2, 1) := by decide +kernel
theorem dX4_digest_183 : decode cX4_digest 183 = .ok (.aload_n 0, 1) := by decide +kernel
theorem dX4_digest_184 : decode cX4_digest 184 = .ok (.getfield 7, 3) := by decide +kernel
theorem dX4_digest_187 : decode cX4_digest 187 = .ok (.sipush 180, 3) := by decide +kernel
theorem dX4_digest_190 : decode cX4_digest 190 = .ok (.iaload, 1) := by decide +kernel
theorem dX4_digest_191 : decode cX4_digest 191 = .ok (.imul, 1) := by decide +kernel
theorem dX4_digest_192 : decode cX4_digest 192 = .ok (.if_icmp .ge 27, 3) := by decide +kernel
theorem dX4_digest_195 : decode cX4_digest 195 = .ok (.ldc2_w 186, 3) := by decide +kernel
theorem dX4_digest_198 : decode cX4_digest 198 = .ok (.lload_n 1, 1) := by decide +kernel
theorem dX4_digest_199 : decode cX4_digest 199 = .ok (.lmul, 1) := by decide +kernel
theorem dX4_digest_200 : decode cX4_digest 200 = .ok (.aload_n 0, 1) := by decide +kernel
theorem dX4_digest_201 : decode cX4_digest 201 = .ok (.getfield 7, 3) := by decide +kernel
theorem dX4_digest_204 : decode cX4_digest 204 = .ok (.sipush 181, 3) := by decide +kernel
theorem dX4_digest_207 : decode cX4_digest 207 = .ok (.iload_n 3, 1) := by decide +kernel
theorem dX4_digest_208 : decode cX4_digest 208 = .ok (.iadd, 1) := by decide +kernel
theorem dX4_digest_209 : decode cX4_digest 209 = .ok (.iaload, 1) := by decide +kernel
theorem dX4_digest_210 : decode cX4_digest 210 = .ok (.i2l, 1) := by decide +kernel
theorem dX4_digest_211 : decode cX4_digest 211 = .ok (.ladd, 1) := by decide +kernel
theorem dX4_digest_212 : decode cX4_digest 212 = .ok (.lstore_n 1, 1) := by decide +kernel
theorem dX4_digest_213 : decode cX4_digest 213 = .ok (.iinc 3 1, 3) := by decide +kernel
theorem dX4_digest_216 : decode cX4_digest 216 = .ok (.goto (-35), 3) := by decide +kernel
theorem dX4_digest_219 : decode cX4_digest 219 = .ok (.ldc2_w 186, 3) := by decide +kernel
theorem dX4_digest_222 : decode cX4_digest 222 = .ok (.ldc2_w 186, 3) := by decide +kernel
theorem dX4_digest_225 : decode cX4_digest 225 = .ok (.lload_n 1, 1) := by decide +kernel
theorem dX4_digest_226 : decode cX4_digest 226 = .ok (.lmul, 1) := by decide +kernel
theorem dX4_digest_227 : decode cX4_digest 227 = .ok (.aload_n 0, 1) := by decide +kernel
theorem dX4_digest_228 : decode cX4_digest 228 = .ok (.getfield 7, 3) := by decide +kernel
theorem dX4_digest_231 : decode cX4_digest 231 = .ok (.sipush 178, 3) := by decide +kernel
theorem dX4_digest_234 : decode cX4_digest 234 = .ok (.iaload, 1) := by decide +kernel
theorem dX4_digest_235 : decode cX4_digest 235 = .ok (.i2l, 1) := by decide +kernel
theorem dX4_digest_236 : decode cX4_digest 236 = .ok (.ladd, 1) := by decide +kernel
theorem dX4_digest_237 : decode cX4_digest 237 = .ok (.lmul, 1) := by decide +kernel
theorem dX4_digest_238 : decode cX4_digest 238 = .ok (.aload_n 0, 1) := by decide +kernel
theorem dX4_digest_239 : decode cX4_digest 239 = .ok (.getfield 7, 3) := by decide +kernel
theorem dX4_digest_242 : decode cX4_digest 242 = .ok (.sipush 179, 3) := by decide +kernel
theorem dX4_digest_245 : decode cX4_digest 245 = .ok (.iaload, 1) := by decide +kernel
theorem dX4_digest_246 : decode cX4_digest 246 = .ok (.i2l, 1) := by decide +kernel
theorem dX4_digest_247 : decode cX4_digest 247 = .ok (.ladd, 1) := by decide +kernel
theorem dX4_digest_248 : decode cX4_digest 248 = .ok (.lstore_n 1, 1) := by decide +kernel
theorem dX4_digest_249 : decode cX4_digest 249 = .ok (.ldc2_w 186, 3) := by decide +kernel
theorem dX4_digest_252 : decode cX4_digest 252 = .ok (.ldc2_w 186, 3) := by decide +kernel
theorem dX4_digest_255 : decode cX4_digest 255 = .ok (.lload_n 1, 1) := by decide +kernel
theorem dX4_digest_256 : decode cX4_digest 256 = .ok (.lmul, 1) := by decide +kernel
theorem dX4_digest_257 : decode cX4_digest 257 = .ok (.aload_n 0, 1) := by decide +kernel
theorem dX4_digest_258 : decode cX4_digest 258 = .ok (.invokevirtual 171, 3) := by decide +kernel
theorem dX4_digest_261 : decode cX4_digest 261 = .ok (.i2l, 1) := by decide +kernel
theorem dX4_digest_262 : decode cX4_digest 262 = .ok (.ladd, 1) := by decide +kernel
theorem dX4_digest_263 : decode cX4_digest 263 = .ok (.lmul, 1) := by decide +kernel
theorem dX4_digest_264 : decode cX4_digest 264 = .ok (.aload_n 0, 1) := by decide +kernel
theorem dX4_digest_265 : decode cX4_digest 265 = .ok (.invokevirtual 177, 3) := by decide +kernel
theorem dX4_digest_268 : decode cX4_digest 268 = .ok (.i2l, 1) := by decide +kernel
theorem dX4_digest_269 : decode cX4_digest 269 = .ok (.ladd, 1) := by decide +kernel
theorem dX4_digest_270 : decode cX4_digest 270 = .ok (.lstore_n 1, 1) := by decide +kernel
theorem dX4_digest_271 : decode cX4_digest 271 = .ok (.ldc2_w 186, 3) := by decide +kernel
theorem dX4_digest_274 : decode cX4_digest 274 = .ok (.lload_n 1, 1) := by decide +kernel
theorem dX4_digest_275 : decode cX4_digest 275 = .ok (.lmul, 1) := by decide +kernel
theorem dX4_digest_276 : decode cX4_digest 276 = .ok (.aload_n 0, 1) := by decide +kernel
theorem dX4_digest_277 : decode cX4_digest 277 = .ok (.invokevirtual 180, 3) := by decide +kernel
theorem dX4_digest_280 : decode cX4_digest 280 = .ok (.invokestatic 188, 3) := by decide +kernel
theorem dX4_digest_283 : decode cX4_digest 283 = .ok (.ladd, 1) := by decide +kernel
theorem dX4_digest_284 : decode cX4_digest 284 = .ok (.lstore_n 1, 1) := by decide +kernel
theorem dX4_digest_285 : decode cX4_digest 285 = .ok (.ldc2_w 186, 3) := by decide +kernel
theorem dX4_digest_288 : decode cX4_digest 288 = .ok (.lload_n 1, 1) := by decide +kernel
theorem dX4_digest_289 : decode cX4_digest 289 = .ok (.lmul, 1) := by decide +kernel
theorem dX4_digest_290 : decode cX4_digest 290 = .ok (.aload_n 0, 1) := by decide +kernel
theorem dX4_digest_291 : decode cX4_digest 291 = .ok (.getfield 118, 3) := by decide +kernel
theorem dX4_digest_294 : decode cX4_digest 294 = .ok (.i2l, 1) := by decide +kernel
theorem dX4_digest_295 : decode cX4_digest 295 = .ok (.ladd, 1) := by decide +kernel
theorem dX4_digest_296 : decode cX4_digest 296 = .ok (.lstore_n 1, 1) := by decide +kernel
theorem dX4_digest_297 : decode cX4_digest 297 = .ok (.iconst 0, 1) := by decide +kernel
theorem dX4_digest_298 : decode cX4_digest 298 = .ok (.istore_n 3, 1) := by decide +kernel
theorem dX4_digest_299 : decode cX4_digest 299 = .ok (.iload_n 3, 1) := by decide +kernel
theorem dX4_digest_300 : decode cX4_digest 300 = .ok (.aload_n 0, 1) := by decide +kernel
theorem dX4_digest_301 : decode cX4_digest 301 = .ok (.getfield 118, 3) := by decide +kernel
theorem dX4_digest_304 : decode cX4_digest 304 = .ok (.if_icmp .ge 23, 3) := by decide +kernel
theorem dX4_digest_307 : decode cX4_digest 307 = .ok (.ldc2_w 186, 3) := by decide +kernel
theorem dX4_digest_310 : decode cX4_digest 310 = .ok (.lload_n 1, 1) := by decide +kernel
theorem dX4_digest_311 : decode cX4_digest 311 = .ok (.lmul, 1) := by decide +kernel
theorem dX4_digest_312 : decode cX4_digest 312 = .ok (.aload_n 0, 1) := by decide +kernel
theorem dX4_digest_313 : decode cX4_digest 313 = .ok (.getfield 22, 3) := by decide +kernel
theorem dX4_digest_316 : decode cX4_digest 316 = .ok (.iload_n 3, 1) := by decide +kernel
theorem dX4_digest_317 : decode cX4_digest 317 = .ok (.iaload, 1) := by decide +kernel
theorem dX4_digest_318 : decode cX4_digest 318 = .ok (.i2l, 1) := by decide +kernel
theorem dX4_digest_319 : decode cX4_digest 319 = .ok (.ladd, 1) := by decide +kernel
theorem dX4_digest_320 : decode cX4_digest 320 = .ok (.lstore_n 1, 1) := by decide +kernel
theorem dX4_digest_321 : decode cX4_digest 321 = .ok (.iinc 3 1, 3) := by decide +kernel
theorem dX4_digest_324 : decode cX4_digest 324 = .ok (.goto (-25), 3) := by decide +kernel
theorem dX4_digest_327 : decode cX4_digest 327 = .ok (.lload_n 1, 1) := by decide +kernel
theorem dX4_digest_328 : decode cX4_digest 328 = .ok (.lreturn, 1) := by decide +kernel
