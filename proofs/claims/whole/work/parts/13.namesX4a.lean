
theorem dX4_init_0 : decode cX4_init 0 = .ok (.aload_n 0, 1) := by decide +kernel
theorem dX4_init_1 : decode cX4_init 1 = .ok (.invokespecial 1, 3) := by decide +kernel
theorem dX4_init_4 : decode cX4_init 4 = .ok (.aload_n 0, 1) := by decide +kernel
theorem dX4_init_5 : decode cX4_init 5 = .ok (.sipush 232, 3) := by decide +kernel
theorem dX4_init_8 : decode cX4_init 8 = .ok (.newarray .int, 2) := by decide +kernel
theorem dX4_init_10 : decode cX4_init 10 = .ok (.putfield 7, 3) := by decide +kernel
theorem dX4_init_13 : decode cX4_init 13 = .ok (.aload_n 0, 1) := by decide +kernel
theorem dX4_init_14 : decode cX4_init 14 = .ok (.sipush 232, 3) := by decide +kernel
theorem dX4_init_17 : decode cX4_init 17 = .ok (.newarray .int, 2) := by decide +kernel
theorem dX4_init_19 : decode cX4_init 19 = .ok (.putfield 13, 3) := by decide +kernel
theorem dX4_init_22 : decode cX4_init 22 = .ok (.aload_n 0, 1) := by decide +kernel
theorem dX4_init_23 : decode cX4_init 23 = .ok (.sipush 1392, 3) := by decide +kernel
theorem dX4_init_26 : decode cX4_init 26 = .ok (.newarray .int, 2) := by decide +kernel
theorem dX4_init_28 : decode cX4_init 28 = .ok (.putfield 16, 3) := by decide +kernel
theorem dX4_init_31 : decode cX4_init 31 = .ok (.aload_n 0, 1) := by decide +kernel
theorem dX4_init_32 : decode cX4_init 32 = .ok (.sipush 232, 3) := by decide +kernel
theorem dX4_init_35 : decode cX4_init 35 = .ok (.newarray .int, 2) := by decide +kernel
theorem dX4_init_37 : decode cX4_init 37 = .ok (.putfield 19, 3) := by decide +kernel
theorem dX4_init_40 : decode cX4_init 40 = .ok (.aload_n 0, 1) := by decide +kernel
theorem dX4_init_41 : decode cX4_init 41 = .ok (.bipush 60, 2) := by decide +kernel
theorem dX4_init_43 : decode cX4_init 43 = .ok (.newarray .int, 2) := by decide +kernel
theorem dX4_init_45 : decode cX4_init 45 = .ok (.putfield 22, 3) := by decide +kernel
theorem dX4_init_48 : decode cX4_init 48 = .ok (.aload_n 0, 1) := by decide +kernel
theorem dX4_init_49 : decode cX4_init 49 = .ok (.getfield 7, 3) := by decide +kernel
theorem dX4_init_52 : decode cX4_init 52 = .ok (.sipush 170, 3) := by decide +kernel
theorem dX4_init_55 : decode cX4_init 55 = .ok (.sipush 1080, 3) := by decide +kernel
theorem dX4_init_58 : decode cX4_init 58 = .ok (.iastore, 1) := by decide +kernel
theorem dX4_init_59 : decode cX4_init 59 = .ok (.aload_n 0, 1) := by decide +kernel
theorem dX4_init_60 : decode cX4_init 60 = .ok (.getfield 7, 3) := by decide +kernel
theorem dX4_init_63 : decode cX4_init 63 = .ok (.sipush 171, 3) := by decide +kernel
theorem dX4_init_66 : decode cX4_init 66 = .ok (.bipush 6, 2) := by decide +kernel
theorem dX4_init_68 : decode cX4_init 68 = .ok (.iastore, 1) := by decide +kernel
theorem dX4_init_69 : decode cX4_init 69 = .ok (.aload_n 0, 1) := by decide +kernel
theorem dX4_init_70 : decode cX4_init 70 = .ok (.getfield 7, 3) := by decide +kernel
theorem dX4_init_73 : decode cX4_init 73 = .ok (.sipush 178, 3) := by decide +kernel
theorem dX4_init_76 : decode cX4_init 76 = .ok (.iconst (-1), 1) := by decide +kernel
theorem dX4_init_77 : decode cX4_init 77 = .ok (.iastore, 1) := by decide +kernel
theorem dX4_init_78 : decode cX4_init 78 = .ok (.aload_n 0, 1) := by decide +kernel
theorem dX4_init_79 : decode cX4_init 79 = .ok (.getfield 7, 3) := by decide +kernel
theorem dX4_init_82 : decode cX4_init 82 = .ok (.sipush 179, 3) := by decide +kernel
theorem dX4_init_85 : decode cX4_init 85 = .ok (.iconst (-1), 1) := by decide +kernel
theorem dX4_init_86 : decode cX4_init 86 = .ok (.iastore, 1) := by decide +kernel
theorem dX4_init_87 : decode cX4_init 87 = .ok (.return_, 1) := by decide +kernel
theorem dX4_thrown_0 : decode cX4_thrown 0 = .ok (.aload_n 0, 1) := by decide +kernel
theorem dX4_thrown_1 : decode cX4_thrown 1 = .ok (.getfield 25, 3) := by decide +kernel
theorem dX4_thrown_4 : decode cX4_thrown 4 = .ok (.ireturn, 1) := by decide +kernel
theorem dX4_in_0 : decode cX4_in 0 = .ok (.iload_n 0, 1) := by decide +kernel
theorem dX4_in_1 : decode cX4_in 1 = .ok (.iload_n 1, 1) := by decide +kernel
theorem dX4_in_2 : decode cX4_in 2 = .ok (.if_icmp .lt 12, 3) := by decide +kernel
theorem dX4_in_5 : decode cX4_in 5 = .ok (.iload_n 0, 1) := by decide +kernel
theorem dX4_in_6 : decode cX4_in 6 = .ok (.iload_n 2, 1) := by decide +kernel
theorem dX4_in_7 : decode cX4_in 7 = .ok (.if_icmp .gt 7, 3) := by decide +kernel
theorem dX4_in_10 : decode cX4_in 10 = .ok (.iconst 1, 1) := by decide +kernel
theorem dX4_in_11 : decode cX4_in 11 = .ok (.goto 4, 3) := by decide +kernel
theorem dX4_in_14 : decode cX4_in 14 = .ok (.iconst 0, 1) := by decide +kernel
theorem dX4_in_15 : decode cX4_in 15 = .ok (.ireturn, 1) := by decide +kernel
set_option maxRecDepth 20000 in
theorem ggX4_isHole_X4_in : GoodIn wsX4_isHole wsX4_in := goodIn_r _ [4] (by decide +kernel) (by decide +kernel)
set_option maxRecDepth 20000 in
theorem gX4_isHole_X4_in : GoodIn wsX4_isHole (va_wsS RX4 29 yX4_in wsX4_in) := goodIn_app (goodIn_of _ (by decide +kernel)) ggX4_isHole_X4_in
theorem dX4_isHole_0 : decode cX4_isHole 0 = .ok (.iload_n 0, 1) := by decide +kernel
theorem dX4_isHole_1 : decode cX4_isHole 1 = .ok (.iconst 0, 1) := by decide +kernel
theorem dX4_isHole_2 : decode cX4_isHole 2 = .ok (.bipush 23, 2) := by decide +kernel
theorem dX4_isHole_4 : decode cX4_isHole 4 = .ok (.invokestatic 29, 3) := by decide +kernel
theorem dX4_isHole_7 : decode cX4_isHole 7 = .ok (.ireturn, 1) := by decide +kernel
theorem dX4_of_0 : decode cX4_of 0 = .ok (.aload_n 0, 1) := by decide +kernel
theorem dX4_of_1 : decode cX4_of 1 = .ok (.getfield 7, 3) := by decide +kernel
theorem dX4_of_4 : decode cX4_of 4 = .ok (.bipush 9, 2) := by decide +kernel
theorem dX4_of_6 : decode cX4_of 6 = .ok (.iload_n 1, 1) := by decide +kernel
theorem dX4_of_7 : decode cX4_of 7 = .ok (.imul, 1) := by decide +kernel
theorem dX4_of_8 : decode cX4_of 8 = .ok (.iload_n 2, 1) := by decide +kernel
theorem dX4_of_9 : decode cX4_of 9 = .ok (.iadd, 1) := by decide +kernel
theorem dX4_of_10 : decode cX4_of 10 = .ok (.iaload, 1) := by decide +kernel
theorem dX4_of_11 : decode cX4_of 11 = .ok (.ireturn, 1) := by decide +kernel
theorem dX4_put_0 : decode cX4_put 0 = .ok (.aload_n 0, 1) := by decide +kernel
theorem dX4_put_1 : decode cX4_put 1 = .ok (.getfield 7, 3) := by decide +kernel
theorem dX4_put_4 : decode cX4_put 4 = .ok (.bipush 9, 2) := by decide +kernel
theorem dX4_put_6 : decode cX4_put 6 = .ok (.iload_n 1, 1) := by decide +kernel
theorem dX4_put_7 : decode cX4_put 7 = .ok (.imul, 1) := by decide +kernel
theorem dX4_put_8 : decode cX4_put 8 = .ok (.iload_n 2, 1) := by decide +kernel
theorem dX4_put_9 : decode cX4_put 9 = .ok (.iadd, 1) := by decide +kernel
theorem dX4_put_10 : decode cX4_put 10 = .ok (.iload_n 3, 1) := by decide +kernel
theorem dX4_put_11 : decode cX4_put 11 = .ok (.iastore, 1) := by decide +kernel
theorem dX4_put_12 : decode cX4_put 12 = .ok (.return_, 1) := by decide +kernel
set_option maxRecDepth 20000 in
theorem ggX4_isDove_X4_in : GoodIn wsX4_isDove wsX4_in := goodIn_r _ [4] (by decide +kernel) (by decide +kernel)
set_option maxRecDepth 20000 in
theorem gX4_isDove_X4_in : GoodIn wsX4_isDove (va_wsS RX4 29 yX4_in wsX4_in) := goodIn_app (goodIn_of _ (by decide +kernel)) ggX4_isDove_X4_in
set_option maxRecDepth 20000 in
theorem ggX4_isDove_X4_of : GoodIn wsX4_isDove wsX4_of := goodIn_r _ [8, 9, 10, 11, 12, 13, 14, 15, 16, 17, 18, 19, 20, 21] (by decide +kernel) (by decide +kernel)
set_option maxRecDepth 20000 in
theorem gX4_isDove_X4_of : GoodIn wsX4_isDove (wsV RX4 33 RX4 yX4_of wsX4_of) := goodIn_app (goodIn_of _ (by decide +kernel)) ggX4_isDove_X4_of
theorem dX4_isDove_0 : decode cX4_isDove 0 = .ok (.iload_n 1, 1) := by decide +kernel
theorem dX4_isDove_1 : decode cX4_isDove 1 = .ok (.iconst 0, 1) := by decide +kernel
theorem dX4_isDove_2 : decode cX4_isDove 2 = .ok (.bipush 15, 2) := by decide +kernel
theorem dX4_isDove_4 : decode cX4_isDove 4 = .ok (.invokestatic 29, 3) := by decide +kernel
theorem dX4_isDove_7 : decode cX4_isDove 7 = .ok (.ifCond .eq 17, 3) := by decide +kernel
theorem dX4_isDove_10 : decode cX4_isDove 10 = .ok (.aload_n 0, 1) := by decide +kernel
theorem dX4_isDove_11 : decode cX4_isDove 11 = .ok (.iload_n 1, 1) := by decide +kernel
theorem dX4_isDove_12 : decode cX4_isDove 12 = .ok (.iconst 0, 1) := by decide +kernel
theorem dX4_isDove_13 : decode cX4_isDove 13 = .ok (.invokevirtual 33, 3) := by decide +kernel
theorem dX4_isDove_16 : decode cX4_isDove 16 = .ok (.iconst 1, 1) := by decide +kernel
theorem dX4_isDove_17 : decode cX4_isDove 17 = .ok (.if_icmp .ne 7, 3) := by decide +kernel
theorem dX4_isDove_20 : decode cX4_isDove 20 = .ok (.iconst 1, 1) := by decide +kernel
theorem dX4_isDove_21 : decode cX4_isDove 21 = .ok (.goto 4, 3) := by decide +kernel
theorem dX4_isDove_24 : decode cX4_isDove 24 = .ok (.iconst 0, 1) := by decide +kernel
theorem dX4_isDove_25 : decode cX4_isDove 25 = .ok (.ireturn, 1) := by decide +kernel
theorem dX4_isOpen_0 : decode cX4_isOpen 0 = .ok (.aload_n 0, 1) := by decide +kernel
theorem dX4_isOpen_1 : decode cX4_isOpen 1 = .ok (.getfield 7, 3) := by decide +kernel
theorem dX4_isOpen_4 : decode cX4_isOpen 4 = .ok (.sipush 144, 3) := by decide +kernel
theorem dX4_isOpen_7 : decode cX4_isOpen 7 = .ok (.iload_n 1, 1) := by decide +kernel
theorem dX4_isOpen_8 : decode cX4_isOpen 8 = .ok (.iadd, 1) := by decide +kernel
theorem dX4_isOpen_9 : decode cX4_isOpen 9 = .ok (.iaload, 1) := by decide +kernel
theorem dX4_isOpen_10 : decode cX4_isOpen 10 = .ok (.ifCond .ne 7, 3) := by decide +kernel
theorem dX4_isOpen_13 : decode cX4_isOpen 13 = .ok (.iconst 1, 1) := by decide +kernel
theorem dX4_isOpen_14 : decode cX4_isOpen 14 = .ok (.goto 4, 3) := by decide +kernel
theorem dX4_isOpen_17 : decode cX4_isOpen 17 = .ok (.iconst 0, 1) := by decide +kernel
theorem dX4_isOpen_18 : decode cX4_isOpen 18 = .ok (.ireturn, 1) := by decide +kernel
set_option maxRecDepth 20000 in
theorem ggX4_sitter_X4_isDove : GoodIn wsX4_sitter wsX4_isDove := goodIn_r _ [5, 6, 7, 4, 8, 9, 10, 11, 12, 13, 14, 15, 16, 17, 18, 19, 20, 21, 22, 23, 24, 25] (by decide +kernel) (by decide +kernel)
set_option maxRecDepth 20000 in
theorem gX4_sitter_X4_isDove : GoodIn wsX4_sitter (wsV RX4 37 RX4 yX4_isDove wsX4_isDove) := goodIn_app (goodIn_of _ (by decide +kernel)) ggX4_sitter_X4_isDove
set_option maxRecDepth 20000 in
theorem ggX4_sitter_X4_of : GoodIn wsX4_sitter wsX4_of := goodIn_r _ [12, 13, 14, 15, 16, 17, 18, 19, 20, 21, 22, 23, 24, 25] (by decide +kernel) (by decide +kernel)
set_option maxRecDepth 20000 in
theorem gX4_sitter_X4_of : GoodIn wsX4_sitter (wsV RX4 33 RX4 yX4_of wsX4_of) := goodIn_app (goodIn_of _ (by decide +kernel)) ggX4_sitter_X4_of
theorem dX4_sitter_0 : decode cX4_sitter 0 = .ok (.iconst (-1), 1) := by decide +kernel
theorem dX4_sitter_1 : decode cX4_sitter 1 = .ok (.istore_n 2, 1) := by decide +kernel
theorem dX4_sitter_2 : decode cX4_sitter 2 = .ok (.iconst 0, 1) := by decide +kernel
theorem dX4_sitter_3 : decode cX4_sitter 3 = .ok (.istore_n 3, 1) := by decide +kernel
theorem dX4_sitter_4 : decode cX4_sitter 4 = .ok (.iload_n 3, 1) := by decide +kernel
theorem dX4_sitter_5 : decode cX4_sitter 5 = .ok (.bipush 16, 2) := by decide +kernel
theorem dX4_sitter_7 : decode cX4_sitter 7 = .ok (.if_icmp .ge 33, 3) := by decide +kernel
theorem dX4_sitter_10 : decode cX4_sitter 10 = .ok (.aload_n 0, 1) := by decide +kernel
theorem dX4_sitter_11 : decode cX4_sitter 11 = .ok (.iload_n 3, 1) := by decide +kernel
theorem dX4_sitter_12 : decode cX4_sitter 12 = .ok (.invokevirtual 37, 3) := by decide +kernel
theorem dX4_sitter_15 : decode cX4_sitter 15 = .ok (.ifCond .eq 17, 3) := by decide +kernel
theorem dX4_sitter_18 : decode cX4_sitter 18 = .ok (.aload_n 0, 1) := by decide +kernel
theorem dX4_sitter_19 : decode cX4_sitter 19 = .ok (.iload_n 3, 1) := by decide +kernel
theorem dX4_sitter_20 : decode cX4_sitter 20 = .ok (.iconst 3, 1) := by decide +kernel
theorem dX4_sitter_21 : decode cX4_sitter 21 = .ok (.invokevirtual 33, 3) := by decide +kernel
theorem dX4_sitter_24 : decode cX4_sitter 24 = .ok (.iload_n 1, 1) := by decide +kernel
theorem dX4_sitter_25 : decode cX4_sitter 25 = .ok (.if_icmp .ne 7, 3) := by decide +kernel
theorem dX4_sitter_28 : decode cX4_sitter 28 = .ok (.iload_n 3, 1) := by decide +kernel
theorem dX4_sitter_29 : decode cX4_sitter 29 = .ok (.goto 4, 3) := by decide +kernel
theorem dX4_sitter_32 : decode cX4_sitter 32 = .ok (.iload_n 2, 1) := by decide +kernel
theorem dX4_sitter_33 : decode cX4_sitter 33 = .ok (.istore_n 2, 1) := by decide +kernel
theorem dX4_sitter_34 : decode cX4_sitter 34 = .ok (.iinc 3 1, 3) := by decide +kernel
theorem dX4_sitter_37 : decode cX4_sitter 37 = .ok (.goto (-33), 3) := by decide +kernel
theorem dX4_sitter_40 : decode cX4_sitter 40 = .ok (.iload_n 2, 1) := by decide +kernel
theorem dX4_sitter_41 : decode cX4_sitter 41 = .ok (.ireturn, 1) := by decide +kernel
set_option maxRecDepth 20000 in
theorem ggX4_ownerOf_X4_isDove : GoodIn wsX4_ownerOf wsX4_isDove := goodIn_r _ [5, 6, 7, 4, 8, 9, 10, 11, 12, 13, 14, 15, 16, 17, 18, 19, 20, 21, 22, 23, 24, 25] (by decide +kernel) (by decide +kernel)
set_option maxRecDepth 20000 in
theorem gX4_ownerOf_X4_isDove : GoodIn wsX4_ownerOf (wsV RX4 37 RX4 yX4_isDove wsX4_isDove) := goodIn_app (goodIn_of _ (by decide +kernel)) ggX4_ownerOf_X4_isDove
set_option maxRecDepth 20000 in
theorem ggX4_ownerOf_X4_of : GoodIn wsX4_ownerOf wsX4_of := goodIn_r _ [12, 13, 14, 15, 16, 17, 18, 19, 20, 21, 22, 23, 24, 25] (by decide +kernel) (by decide +kernel)
set_option maxRecDepth 20000 in
theorem gX4_ownerOf_X4_of : GoodIn wsX4_ownerOf (wsV RX4 33 RX4 yX4_of wsX4_of) := goodIn_app (goodIn_of _ (by decide +kernel)) ggX4_ownerOf_X4_of
theorem dX4_ownerOf_0 : decode cX4_ownerOf 0 = .ok (.iconst (-1), 1) := by decide +kernel
theorem dX4_ownerOf_1 : decode cX4_ownerOf 1 = .ok (.istore_n 2, 1) := by decide +kernel
theorem dX4_ownerOf_2 : decode cX4_ownerOf 2 = .ok (.iconst 0, 1) := by decide +kernel
theorem dX4_ownerOf_3 : decode cX4_ownerOf 3 = .ok (.istore_n 3, 1) := by decide +kernel
theorem dX4_ownerOf_4 : decode cX4_ownerOf 4 = .ok (.iload_n 3, 1) := by decide +kernel
theorem dX4_ownerOf_5 : decode cX4_ownerOf 5 = .ok (.bipush 16, 2) := by decide +kernel
theorem dX4_ownerOf_7 : decode cX4_ownerOf 7 = .ok (.if_icmp .ge 33, 3) := by decide +kernel
theorem dX4_ownerOf_10 : decode cX4_ownerOf 10 = .ok (.aload_n 0, 1) := by decide +kernel
theorem dX4_ownerOf_11 : decode cX4_ownerOf 11 = .ok (.iload_n 3, 1) := by decide +kernel
theorem dX4_ownerOf_12 : decode cX4_ownerOf 12 = .ok (.invokevirtual 37, 3) := by decide +kernel
theorem dX4_ownerOf_15 : decode cX4_ownerOf 15 = .ok (.ifCond .eq 17, 3) := by decide +kernel
theorem dX4_ownerOf_18 : decode cX4_ownerOf 18 = .ok (.aload_n 0, 1) := by decide +kernel
theorem dX4_ownerOf_19 : decode cX4_ownerOf 19 = .ok (.iload_n 3, 1) := by decide +kernel
theorem dX4_ownerOf_20 : decode cX4_ownerOf 20 = .ok (.iconst 1, 1) := by decide +kernel
theorem dX4_ownerOf_21 : decode cX4_ownerOf 21 = .ok (.invokevirtual 33, 3) := by decide +kernel
theorem dX4_ownerOf_24 : decode cX4_ownerOf 24 = .ok (.iload_n 1, 1) := by decide +kernel
theorem dX4_ownerOf_25 : decode cX4_ownerOf 25 = .ok (.if_icmp .ne 7, 3) := by decide +kernel
theorem dX4_ownerOf_28 : decode cX4_ownerOf 28 = .ok (.iload_n 3, 1) := by decide +kernel
theorem dX4_ownerOf_29 : decode cX4_ownerOf 29 = .ok (.goto 4, 3) := by decide +kernel
theorem dX4_ownerOf_32 : decode cX4_ownerOf 32 = .ok (.iload_n 2, 1) := by decide +kernel
theorem dX4_ownerOf_33 : decode cX4_ownerOf 33 = .ok (.istore_n 2, 1) := by decide +kernel
theorem dX4_ownerOf_34 : decode cX4_ownerOf 34 = .ok (.iinc 3 1, 3) := by decide +kernel
theorem dX4_ownerOf_37 : decode cX4_ownerOf 37 = .ok (.goto (-33), 3) := by decide +kernel
theorem dX4_ownerOf_40 : decode cX4_ownerOf 40 = .ok (.iload_n 2, 1) := by decide +kernel
theorem dX4_ownerOf_41 : decode cX4_ownerOf 41 = .ok (.ireturn, 1) := by decide +kernel
set_option maxRecDepth 20000 in
theorem ggX4_allDoves_X4_of : GoodIn wsX4_allDoves wsX4_of := goodIn_r _ [5, 6, 7, 8, 9, 10, 11, 12, 13, 14, 15, 16, 17, 18] (by decide +kernel) (by decide +kernel)
set_option maxRecDepth 20000 in
theorem gX4_allDoves_X4_of : GoodIn wsX4_allDoves (wsV RX4 33 RX4 yX4_of wsX4_of) := goodIn_app (goodIn_of _ (by decide +kernel)) ggX4_allDoves_X4_of
theorem dX4_allDoves_0 : decode cX4_allDoves 0 = .ok (.iconst 0, 1) := by decide +kernel
theorem dX4_allDoves_1 : decode cX4_allDoves 1 = .ok (.istore_n 1, 1) := by decide +kernel
theorem dX4_allDoves_2 : decode cX4_allDoves 2 = .ok (.iconst 0, 1) := by decide +kernel
theorem dX4_allDoves_3 : decode cX4_allDoves 3 = .ok (.istore_n 2, 1) := by decide +kernel
theorem dX4_allDoves_4 : decode cX4_allDoves 4 = .ok (.iload_n 2, 1) := by decide +kernel
theorem dX4_allDoves_5 : decode cX4_allDoves 5 = .ok (.bipush 16, 2) := by decide +kernel
theorem dX4_allDoves_7 : decode cX4_allDoves 7 = .ok (.if_icmp .ge 18, 3) := by decide +kernel
theorem dX4_allDoves_10 : decode cX4_allDoves 10 = .ok (.iload_n 1, 1) := by decide +kernel
theorem dX4_allDoves_11 : decode cX4_allDoves 11 = .ok (.aload_n 0, 1) := by decide +kernel
theorem dX4_allDoves_12 : decode cX4_allDoves 12 = .ok (.iload_n 2, 1) := by decide +kernel
theorem dX4_allDoves_13 : decode cX4_allDoves 13 = .ok (.iconst 0, 1) := by decide +kernel
theorem dX4_allDoves_14 : decode cX4_allDoves 14 = .ok (.invokevirtual 33, 3) := by decide +kernel
theorem dX4_allDoves_17 : decode cX4_allDoves 17 = .ok (.iadd, 1) := by decide +kernel
theorem dX4_allDoves_18 : decode cX4_allDoves 18 = .ok (.istore_n 1, 1) := by decide +kernel
theorem dX4_allDoves_19 : decode cX4_allDoves 19 = .ok (.iinc 2 1, 3) := by decide +kernel
theorem dX4_allDoves_22 : decode cX4_allDoves 22 = .ok (.goto (-18), 3) := by decide +kernel
theorem dX4_allDoves_25 : decode cX4_allDoves 25 = .ok (.iload_n 1, 1) := by decide +kernel
theorem dX4_allDoves_26 : decode cX4_allDoves 26 = .ok (.ireturn, 1) := by decide +kernel
set_option maxRecDepth 20000 in
theorem ggX4_dovesAt_X4_isDove : GoodIn wsX4_dovesAt wsX4_isDove := goodIn_r _ [5, 6, 7, 4, 8, 9, 10, 11, 12, 13, 14, 15, 16, 17, 18, 19, 20, 21, 22, 23, 24, 25] (by decide +kernel) (by decide +kernel)
set_option maxRecDepth 20000 in
theorem gX4_dovesAt_X4_isDove : GoodIn wsX4_dovesAt (wsV RX4 37 RX4 yX4_isDove wsX4_isDove) := goodIn_app (goodIn_of _ (by decide +kernel)) ggX4_dovesAt_X4_isDove
set_option maxRecDepth 20000 in
theorem ggX4_dovesAt_X4_of : GoodIn wsX4_dovesAt wsX4_of := goodIn_r _ [12, 13, 14, 15, 16, 17, 18, 19, 20, 21, 22, 23, 24, 25] (by decide +kernel) (by decide +kernel)
set_option maxRecDepth 20000 in
theorem gX4_dovesAt_X4_of : GoodIn wsX4_dovesAt (wsV RX4 33 RX4 yX4_of wsX4_of) := goodIn_app (goodIn_of _ (by decide +kernel)) ggX4_dovesAt_X4_of
set_option maxRecDepth 20000 in
theorem ggX4_dovesAt_X4_in : GoodIn wsX4_dovesAt wsX4_in := goodIn_r _ [8] (by decide +kernel) (by decide +kernel)
set_option maxRecDepth 20000 in
theorem gX4_dovesAt_X4_in : GoodIn wsX4_dovesAt (va_wsS RX4 29 yX4_in wsX4_in) := goodIn_app (goodIn_of _ (by decide +kernel)) ggX4_dovesAt_X4_in
theorem dX4_dovesAt_0 : decode cX4_dovesAt 0 = .ok (.iconst 0, 1) := by decide +kernel
theorem dX4_dovesAt_1 : decode cX4_dovesAt 1 = .ok (.istore_n 3, 1) := by decide +kernel
theorem dX4_dovesAt_2 : decode cX4_dovesAt 2 = .ok (.iconst 0, 1) := by decide +kernel
theorem dX4_dovesAt_3 : decode cX4_dovesAt 3 = .ok (.istore 4, 2) := by decide +kernel
theorem dX4_dovesAt_5 : decode cX4_dovesAt 5 = .ok (.iload 4, 2) := by decide +kernel
theorem dX4_dovesAt_7 : decode cX4_dovesAt 7 = .ok (.bipush 16, 2) := by decide +kernel
theorem dX4_dovesAt_9 : decode cX4_dovesAt 9 = .ok (.if_icmp .ge 41, 3) := by decide +kernel
theorem dX4_dovesAt_12 : decode cX4_dovesAt 12 = .ok (.iload_n 3, 1) := by decide +kernel
theorem dX4_dovesAt_13 : decode cX4_dovesAt 13 = .ok (.aload_n 0, 1) := by decide +kernel
theorem dX4_dovesAt_14 : decode cX4_dovesAt 14 = .ok (.iload 4, 2) := by decide +kernel
theorem dX4_dovesAt_16 : decode cX4_dovesAt 16 = .ok (.invokevirtual 37, 3) := by decide +kernel
theorem dX4_dovesAt_19 : decode cX4_dovesAt 19 = .ok (.ifCond .eq 22, 3) := by decide +kernel
theorem dX4_dovesAt_22 : decode cX4_dovesAt 22 = .ok (.aload_n 0, 1) := by decide +kernel
theorem dX4_dovesAt_23 : decode cX4_dovesAt 23 = .ok (.iload 4, 2) := by decide +kernel
theorem dX4_dovesAt_25 : decode cX4_dovesAt 25 = .ok (.iconst 3, 1) := by decide +kernel
theorem dX4_dovesAt_26 : decode cX4_dovesAt 26 = .ok (.invokevirtual 33, 3) := by decide +kernel
theorem dX4_dovesAt_29 : decode cX4_dovesAt 29 = .ok (.iload_n 1, 1) := by decide +kernel
theorem dX4_dovesAt_30 : decode cX4_dovesAt 30 = .ok (.iload_n 2, 1) := by decide +kernel
theorem dX4_dovesAt_31 : decode cX4_dovesAt 31 = .ok (.invokestatic 29, 3) := by decide +kernel
theorem dX4_dovesAt_34 : decode cX4_dovesAt 34 = .ok (.ifCond .eq 7, 3) := by decide +kernel
theorem dX4_dovesAt_37 : decode cX4_dovesAt 37 = .ok (.iconst 1, 1) := by decide +kernel
theorem dX4_dovesAt_38 : decode cX4_dovesAt 38 = .ok (.goto 4, 3) := by decide +kernel
theorem dX4_dovesAt_41 : decode cX4_dovesAt 41 = .ok (.iconst 0, 1) := by decide +kernel
theorem dX4_dovesAt_42 : decode cX4_dovesAt 42 = .ok (.iadd, 1) := by decide +kernel
theorem dX4_dovesAt_43 : decode cX4_dovesAt 43 = .ok (.istore_n 3, 1) := by decide +kernel
theorem dX4_dovesAt_44 : decode cX4_dovesAt 44 = .ok (.iinc 4 1, 3) := by decide +kernel
theorem dX4_dovesAt_47 : decode cX4_dovesAt 47 = .ok (.goto (-42), 3) := by decide +kernel
theorem dX4_dovesAt_50 : decode cX4_dovesAt 50 = .ok (.iload_n 3, 1) := by decide +kernel
theorem dX4_dovesAt_51 : decode cX4_dovesAt 51 = .ok (.ireturn, 1) := by decide +kernel
set_option maxRecDepth 20000 in
theorem ggX4_openHoles_X4_isOpen : GoodIn wsX4_openHoles wsX4_isOpen := goodIn_r _ [5, 6, 7, 8, 9, 10, 11, 12, 13, 14, 15, 16, 17, 18] (by decide +kernel) (by decide +kernel)
set_option maxRecDepth 20000 in
theorem gX4_openHoles_X4_isOpen : GoodIn wsX4_openHoles (wsV RX4 41 RX4 yX4_isOpen wsX4_isOpen) := goodIn_app (goodIn_of _ (by decide +kernel)) ggX4_openHoles_X4_isOpen
theorem dX4_openHoles_0 : decode cX4_openHoles 0 = .ok (.iconst 0, 1) := by decide +kernel
theorem dX4_openHoles_1 : decode cX4_openHoles 1 = .ok (.istore_n 1, 1) := by decide +kernel
theorem dX4_openHoles_2 : decode cX4_openHoles 2 = .ok (.iconst 0, 1) := by decide +kernel
theorem dX4_openHoles_3 : decode cX4_openHoles 3 = .ok (.istore_n 2, 1) := by decide +kernel
theorem dX4_openHoles_4 : decode cX4_openHoles 4 = .ok (.iload_n 2, 1) := by decide +kernel
theorem dX4_openHoles_5 : decode cX4_openHoles 5 = .ok (.bipush 24, 2) := by decide +kernel
theorem dX4_openHoles_7 : decode cX4_openHoles 7 = .ok (.if_icmp .ge 25, 3) := by decide +kernel
theorem dX4_openHoles_10 : decode cX4_openHoles 10 = .ok (.iload_n 1, 1) := by decide +kernel
theorem dX4_openHoles_11 : decode cX4_openHoles 11 = .ok (.aload_n 0, 1) := by decide +kernel
theorem dX4_openHoles_12 : decode cX4_openHoles 12 = .ok (.iload_n 2, 1) := by decide +kernel
theorem dX4_openHoles_13 : decode cX4_openHoles 13 = .ok (.invokevirtual 41, 3) := by decide +kernel
theorem dX4_openHoles_16 : decode cX4_openHoles 16 = .ok (.ifCond .eq 7, 3) := by decide +kernel
theorem dX4_openHoles_19 : decode cX4_openHoles 19 = .ok (.iconst 1, 1) := by decide +kernel
theorem dX4_openHoles_20 : decode cX4_openHoles 20 = .ok (.goto 4, 3) := by decide +kernel
theorem dX4_openHoles_23 : decode cX4_openHoles 23 = .ok (.iconst 0, 1) := by decide +kernel
theorem dX4_openHoles_24 : decode cX4_openHoles 24 = .ok (.iadd, 1) := by decide +kernel
theorem dX4_openHoles_25 : decode cX4_openHoles 25 = .ok (.istore_n 1, 1) := by decide +kernel
theorem dX4_openHoles_26 : decode cX4_openHoles 26 = .ok (.iinc 2 1, 3) := by decide +kernel
theorem dX4_openHoles_29 : decode cX4_openHoles 29 = .ok (.goto (-25), 3) := by decide +kernel
theorem dX4_openHoles_32 : decode cX4_openHoles 32 = .ok (.iload_n 1, 1) := by decide +kernel
theorem dX4_openHoles_33 : decode cX4_openHoles 33 = .ok (.ireturn, 1) := by decide +kernel
set_option maxRecDepth 20000 in
theorem ggX4_pairs_X4_isDove : GoodIn wsX4_pairs wsX4_isDove := goodIn_r _ [5, 6, 7, 4, 8, 9, 10, 11, 12, 13, 14, 15, 16, 17, 18, 19, 20, 21, 22, 23, 24, 25] (by decide +kernel) (by decide +kernel)
set_option maxRecDepth 20000 in
theorem gX4_pairs_X4_isDove : GoodIn wsX4_pairs (wsV RX4 37 RX4 yX4_isDove wsX4_isDove) := goodIn_app (goodIn_of _ (by decide +kernel)) ggX4_pairs_X4_isDove
set_option maxRecDepth 20000 in
theorem ggX4_pairs_X4_of : GoodIn wsX4_pairs wsX4_of := goodIn_r _ [12, 13, 14, 15, 16, 17, 18, 19, 20, 21, 22, 23, 24, 25] (by decide +kernel) (by decide +kernel)
set_option maxRecDepth 20000 in
theorem gX4_pairs_X4_of : GoodIn wsX4_pairs (wsV RX4 33 RX4 yX4_of wsX4_of) := goodIn_app (goodIn_of _ (by decide +kernel)) ggX4_pairs_X4_of
theorem dX4_pairs_0 : decode cX4_pairs 0 = .ok (.iconst 0, 1) := by decide +kernel
theorem dX4_pairs_1 : decode cX4_pairs 1 = .ok (.istore_n 1, 1) := by decide +kernel
theorem dX4_pairs_2 : decode cX4_pairs 2 = .ok (.iconst 0, 1) := by decide +kernel
theorem dX4_pairs_3 : decode cX4_pairs 3 = .ok (.istore_n 2, 1) := by decide +kernel
theorem dX4_pairs_4 : decode cX4_pairs 4 = .ok (.iload_n 2, 1) := by decide +kernel
theorem dX4_pairs_5 : decode cX4_pairs 5 = .ok (.bipush 16, 2) := by decide +kernel
theorem dX4_pairs_7 : decode cX4_pairs 7 = .ok (.if_icmp .ge 35, 3) := by decide +kernel
theorem dX4_pairs_10 : decode cX4_pairs 10 = .ok (.iload_n 1, 1) := by decide +kernel
theorem dX4_pairs_11 : decode cX4_pairs 11 = .ok (.aload_n 0, 1) := by decide +kernel
theorem dX4_pairs_12 : decode cX4_pairs 12 = .ok (.iload_n 2, 1) := by decide +kernel
theorem dX4_pairs_13 : decode cX4_pairs 13 = .ok (.invokevirtual 37, 3) := by decide +kernel
theorem dX4_pairs_16 : decode cX4_pairs 16 = .ok (.ifCond .eq 17, 3) := by decide +kernel
theorem dX4_pairs_19 : decode cX4_pairs 19 = .ok (.aload_n 0, 1) := by decide +kernel
theorem dX4_pairs_20 : decode cX4_pairs 20 = .ok (.iload_n 2, 1) := by decide +kernel
theorem dX4_pairs_21 : decode cX4_pairs 21 = .ok (.iconst 4, 1) := by decide +kernel
theorem dX4_pairs_22 : decode cX4_pairs 22 = .ok (.invokevirtual 33, 3) := by decide +kernel
theorem dX4_pairs_25 : decode cX4_pairs 25 = .ok (.iload_n 2, 1) := by decide +kernel
theorem dX4_pairs_26 : decode cX4_pairs 26 = .ok (.if_icmp .le 7, 3) := by decide +kernel
theorem dX4_pairs_29 : decode cX4_pairs 29 = .ok (.iconst 1, 1) := by decide +kernel
theorem dX4_pairs_30 : decode cX4_pairs 30 = .ok (.goto 4, 3) := by decide +kernel
theorem dX4_pairs_33 : decode cX4_pairs 33 = .ok (.iconst 0, 1) := by decide +kernel
theorem dX4_pairs_34 : decode cX4_pairs 34 = .ok (.iadd, 1) := by decide +kernel
theorem dX4_pairs_35 : decode cX4_pairs 35 = .ok (.istore_n 1, 1) := by decide +kernel
theorem dX4_pairs_36 : decode cX4_pairs 36 = .ok (.iinc 2 1, 3) := by decide +kernel
theorem dX4_pairs_39 : decode cX4_pairs 39 = .ok (.goto (-35), 3) := by decide +kernel
theorem dX4_pairs_42 : decode cX4_pairs 42 = .ok (.iload_n 1, 1) := by decide +kernel
theorem dX4_pairs_43 : decode cX4_pairs 43 = .ok (.ireturn, 1) := by decide +kernel
theorem dX4_record_0 : decode cX4_record 0 = .ok (.aload_n 0, 1) := by decide +kernel
theorem dX4_record_1 : decode cX4_record 1 = .ok (.getfield 44, 3) := by decide +kernel
theorem dX4_record_4 : decode cX4_record 4 = .ok (.bipush 6, 2) := by decide +kernel
theorem dX4_record_6 : decode cX4_record 6 = .ok (.if_icmp .ne 44, 3) := by decide +kernel
theorem dX4_record_9 : decode cX4_record 9 = .ok (.iconst 0, 1) := by decide +kernel
theorem dX4_record_10 : decode cX4_record 10 = .ok (.istore_n 1, 1) := by decide +kernel
theorem dX4_record_11 : decode cX4_record 11 = .ok (.iload_n 1, 1) := by decide +kernel
theorem dX4_record_12 : decode cX4_record 12 = .ok (.sipush 1160, 3) := by decide +kernel
theorem dX4_record_15 : decode cX4_record 15 = .ok (.if_icmp .ge 25, 3) := by decide +kernel
theorem dX4_record_18 : decode cX4_record 18 = .ok (.aload_n 0, 1) := by decide +kernel
theorem dX4_record_19 : decode cX4_record 19 = .ok (.getfield 16, 3) := by decide +kernel
theorem dX4_record_22 : decode cX4_record 22 = .ok (.iload_n 1, 1) := by decide +kernel
theorem dX4_record_23 : decode cX4_record 23 = .ok (.aload_n 0, 1) := by decide +kernel
theorem dX4_record_24 : decode cX4_record 24 = .ok (.getfield 16, 3) := by decide +kernel
theorem dX4_record_27 : decode cX4_record 27 = .ok (.sipush 232, 3) := by decide +kernel
theorem dX4_record_30 : decode cX4_record 30 = .ok (.iload_n 1, 1) := by decide +kernel
theorem dX4_record_31 : decode cX4_record 31 = .ok (.iadd, 1) := by decide +kernel
theorem dX4_record_32 : decode cX4_record 32 = .ok (.iaload, 1) := by decide +kernel
theorem dX4_record_33 : decode cX4_record 33 = .ok (.iastore, 1) := by decide +kernel
theorem dX4_record_34 : decode cX4_record 34 = .ok (.iinc 1 1, 3) := by decide +kernel
theorem dX4_record_37 : decode cX4_record 37 = .ok (.goto (-26), 3) := by decide +kernel
theorem dX4_record_40 : decode cX4_record 40 = .ok (.aload_n 0, 1) := by decide +kernel
theorem dX4_record_41 : decode cX4_record 41 = .ok (.dup, 1) := by decide +kernel
theorem dX4_record_42 : decode cX4_record 42 = .ok (.getfield 44, 3) := by decide +kernel
theorem dX4_record_45 : decode cX4_record 45 = .ok (.iconst 1, 1) := by decide +kernel
theorem dX4_record_46 : decode cX4_record 46 = .ok (.isub, 1) := by decide +kernel
theorem dX4_record_47 : decode cX4_record 47 = .ok (.putfield 44, 3) := by decide +kernel
theorem dX4_record_50 : decode cX4_record 50 = .ok (.iconst 0, 1) := by decide +kernel
theorem dX4_record_51 : decode cX4_record 51 = .ok (.istore_n 1, 1) := by decide +kernel
theorem dX4_record_52 : decode cX4_record 52 = .ok (.iload_n 1, 1) := by decide +kernel
theorem dX4_record_53 : decode cX4_record 53 = .ok (.sipush 232, 3) := by decide +kernel
theorem dX4_record_56 : decode cX4_record 56 = .ok (.if_icmp .ge 30, 3) := by decide +kernel
theorem dX4_record_59 : decode cX4_record 59 = .ok (.aload_n 0, 1) := by decide +kernel
theorem dX4_record_60 : decode cX4_record 60 = .ok (.getfield 16, 3) := by decide +kernel
theorem dX4_record_63 : decode cX4_record 63 = .ok (.sipush 232, 3) := by decide +kernel
theorem dX4_record_66 : decode cX4_record 66 = .ok (.aload_n 0, 1) := by decide +kernel
theorem dX4_record_67 : decode cX4_record 67 = .ok (.getfield 44, 3) := by decide +kernel
theorem dX4_record_70 : decode cX4_record 70 = .ok (.imul, 1) := by decide +kernel
theorem dX4_record_71 : decode cX4_record 71 = .ok (.iload_n 1, 1) := by decide +kernel
theorem dX4_record_72 : decode cX4_record 72 = .ok (.iadd, 1) := by decide +kernel
theorem dX4_record_73 : decode cX4_record 73 = .ok (.aload_n 0, 1) := by decide +kernel
theorem dX4_record_74 : decode cX4_record 74 = .ok (.getfield 7, 3) := by decide +kernel
theorem dX4_record_77 : decode cX4_record 77 = .ok (.iload_n 1, 1) := by decide +kernel
theorem dX4_record_78 : decode cX4_record 78 = .ok (.iaload, 1) := by decide +kernel
theorem dX4_record_79 : decode cX4_record 79 = .ok (.iastore, 1) := by decide +kernel
theorem dX4_record_80 : decode cX4_record 80 = .ok (.iinc 1 1, 3) := by decide +kernel
theorem dX4_record_83 : decode cX4_record 83 = .ok (.goto (-31), 3) := by decide +kernel
theorem dX4_record_86 : decode cX4_record 86 = .ok (.aload_n 0, 1) := by decide +kernel
theorem dX4_record_87 : decode cX4_record 87 = .ok (.dup, 1) := by decide +kernel
theorem dX4_record_88 : decode cX4_record 88 = .ok (.getfield 44, 3) := by decide +kernel
theorem dX4_record_91 : decode cX4_record 91 = .ok (.iconst 1, 1) := by decide +kernel
theorem dX4_record_92 : decode cX4_record 92 = .ok (.iadd, 1) := by decide +kernel
theorem dX4_record_93 : decode cX4_record 93 = .ok (.putfield 44, 3) := by decide +kernel
theorem dX4_record_96 : decode cX4_record 96 = .ok (.return_, 1) := by decide +kernel
theorem dX4_undo_0 : decode cX4_undo 0 = .ok (.aload_n 0, 1) := by decide +kernel
theorem dX4_undo_1 : decode cX4_undo 1 = .ok (.aload_n 0, 1) := by decide +kernel
theorem dX4_undo_2 : decode cX4_undo 2 = .ok (.getfield 44, 3) := by decide +kernel
theorem dX4_undo_5 : decode cX4_undo 5 = .ok (.ifCond .ne 7, 3) := by decide +kernel
theorem dX4_undo_8 : decode cX4_undo 8 = .ok (.iconst 1, 1) := by decide +kernel
theorem dX4_undo_9 : decode cX4_undo 9 = .ok (.goto 4, 3) := by decide +kernel
theorem dX4_undo_12 : decode cX4_undo 12 = .ok (.iconst 0, 1) := by decide +kernel
theorem dX4_undo_13 : decode cX4_undo 13 = .ok (.putfield 25, 3) := by decide +kernel
theorem dX4_undo_16 : decode cX4_undo 16 = .ok (.aload_n 0, 1) := by decide +kernel
theorem dX4_undo_17 : decode cX4_undo 17 = .ok (.getfield 25, 3) := by decide +kernel
theorem dX4_undo_20 : decode cX4_undo 20 = .ok (.ifCond .le 5, 3) := by decide +kernel
theorem dX4_undo_23 : decode cX4_undo 23 = .ok (.iconst 0, 1) := by decide +kernel
theorem dX4_undo_24 : decode cX4_undo 24 = .ok (.ireturn, 1) := by decide +kernel
theorem dX4_undo_25 : decode cX4_undo 25 = .ok (.aload_n 0, 1) := by decide +kernel
theorem dX4_undo_26 : decode cX4_undo 26 = .ok (.dup, 1) := by decide +kernel
theorem dX4_undo_27 : decode cX4_undo 27 = .ok (.getfield 44, 3) := by decide +kernel
theorem dX4_undo_30 : decode cX4_undo 30 = .ok (.iconst 1, 1) := by decide +kernel
theorem dX4_undo_31 : decode cX4_undo 31 = .ok (.isub, 1) := by decide +kernel
theorem dX4_undo_32 : decode cX4_undo 32 = .ok (.putfield 44, 3) := by decide +kernel
theorem dX4_undo_35 : decode cX4_undo 35 = .ok (.iconst 0, 1) := by decide +kernel
theorem dX4_undo_36 : decode cX4_undo 36 = .ok (.istore_n 1, 1) := by decide +kernel
theorem dX4_undo_37 : decode cX4_undo 37 = .ok (.iload_n 1, 1) := by decide +kernel
theorem dX4_undo_38 : decode cX4_undo 38 = .ok (.sipush 232, 3) := by decide +kernel
theorem dX4_undo_41 : decode cX4_undo 41 = .ok (.if_icmp .ge 30, 3) := by decide +kernel
theorem dX4_undo_44 : decode cX4_undo 44 = .ok (.aload_n 0, 1) := by decide +kernel
theorem dX4_undo_45 : decode cX4_undo 45 = .ok (.getfield 7, 3) := by decide +kernel
theorem dX4_undo_48 : decode cX4_undo 48 = .ok (.iload_n 1, 1) := by decide +kernel
theorem dX4_undo_49 : decode cX4_undo 49 = .ok (.aload_n 0, 1) := by decide +kernel
theorem dX4_undo_50 : decode cX4_undo 50 = .ok (.getfield 16, 3) := by decide +kernel
theorem dX4_undo_53 : decode cX4_undo 53 = .ok (.sipush 232, 3) := by decide +kernel
theorem dX4_undo_56 : decode cX4_undo 56 = .ok (.aload_n 0, 1) := by decide +kernel
theorem dX4_undo_57 : decode cX4_undo 57 = .ok (.getfield 44, 3) := by decide +kernel
theorem dX4_undo_60 : decode cX4_undo 60 = .ok (.imul, 1) := by decide +kernel
theorem dX4_undo_61 : decode cX4_undo 61 = .ok (.iload_n 1, 1) := by decide +kernel
theorem dX4_undo_62 : decode cX4_undo 62 = .ok (.iadd, 1) := by decide +kernel
theorem dX4_undo_63 : decode cX4_undo 63 = .ok (.iaload, 1) := by decide +kernel
theorem dX4_undo_64 : decode cX4_undo 64 = .ok (.iastore, 1) := by decide +kernel
theorem dX4_undo_65 : decode cX4_undo 65 = .ok (.iinc 1 1, 3) := by decide +kernel
theorem dX4_undo_68 : decode cX4_undo 68 = .ok (.goto (-31), 3) := by decide +kernel
theorem dX4_undo_71 : decode cX4_undo 71 = .ok (.aload_n 0, 1) := by decide +kernel
theorem dX4_undo_72 : decode cX4_undo 72 = .ok (.getfield 44, 3) := by decide +kernel
theorem dX4_undo_75 : decode cX4_undo 75 = .ok (.ireturn, 1) := by decide +kernel
theorem dX4_keep_0 : decode cX4_keep 0 = .ok (.aload_n 0, 1) := by decide +kernel
theorem dX4_keep_1 : decode cX4_keep 1 = .ok (.iconst 0, 1) := by decide +kernel
theorem dX4_keep_2 : decode cX4_keep 2 = .ok (.putfield 25, 3) := by decide +kernel
theorem dX4_keep_5 : decode cX4_keep 5 = .ok (.iconst 0, 1) := by decide +kernel
theorem dX4_keep_6 : decode cX4_keep 6 = .ok (.istore_n 1, 1) := by decide +kernel
theorem dX4_keep_7 : decode cX4_keep 7 = .ok (.iload_n 1, 1) := by decide +kernel
theorem dX4_keep_8 : decode cX4_keep 8 = .ok (.sipush 232, 3) := by decide +kernel
theorem dX4_keep_11 : decode cX4_keep 11 = .ok (.if_icmp .ge 21, 3) := by decide +kernel
theorem dX4_keep_14 : decode cX4_keep 14 = .ok (.aload_n 0, 1) := by decide +kernel
theorem dX4_keep_15 : decode cX4_keep 15 = .ok (.getfield 19, 3) := by decide +kernel
theorem dX4_keep_18 : decode cX4_keep 18 = .ok (.iload_n 1, 1) := by decide +kernel
theorem dX4_keep_19 : decode cX4_keep 19 = .ok (.aload_n 0, 1) := by decide +kernel
theorem dX4_keep_20 : decode cX4_keep 20 = .ok (.getfield 7, 3) := by decide +kernel
theorem dX4_keep_23 : decode cX4_keep 23 = .ok (.iload_n 1, 1) := by decide +kernel
theorem dX4_keep_24 : decode cX4_keep 24 = .ok (.iaload, 1) := by decide +kernel
theorem dX4_keep_25 : decode cX4_keep 25 = .ok (.iastore, 1) := by decide +kernel
theorem dX4_keep_26 : decode cX4_keep 26 = .ok (.iinc 1 1, 3) := by decide +kernel
theorem dX4_keep_29 : decode cX4_keep 29 = .ok (.goto (-22), 3) := by decide +kernel
theorem dX4_keep_32 : decode cX4_keep 32 = .ok (.aload_n 0, 1) := by decide +kernel
theorem dX4_keep_33 : decode cX4_keep 33 = .ok (.iconst 1, 1) := by decide +kernel
theorem dX4_keep_34 : decode cX4_keep 34 = .ok (.putfield 47, 3) := by decide +kernel
theorem dX4_keep_37 : decode cX4_keep 37 = .ok (.aload_n 0, 1) := by decide +kernel
theorem dX4_keep_38 : decode cX4_keep 38 = .ok (.getfield 7, 3) := by decide +kernel
theorem dX4_keep_41 : decode cX4_keep 41 = .ok (.sipush 169, 3) := by decide +kernel
theorem dX4_keep_44 : decode cX4_keep 44 = .ok (.iaload, 1) := by decide +kernel
theorem dX4_keep_45 : decode cX4_keep 45 = .ok (.ireturn, 1) := by decide +kernel
set_option maxRecDepth 20000 in
theorem ggX4_restore_X4_record : GoodIn wsX4_restore wsX4_record := goodIn_r _ [9, 10, 11, 3, 12, 13, 14, 15, 16, 17, 18, 19, 20, 21, 22, 23] (by decide +kernel) (by decide +kernel)
set_option maxRecDepth 20000 in
theorem gX4_restore_X4_record : GoodIn wsX4_restore (wsV RX4 51 RX4 yX4_record wsX4_record) := goodIn_app (goodIn_of _ (by decide +kernel)) ggX4_restore_X4_record
theorem dX4_restore_0 : decode cX4_restore 0 = .ok (.aload_n 0, 1) := by decide +kernel
theorem dX4_restore_1 : decode cX4_restore 1 = .ok (.aload_n 0, 1) := by decide +kernel
theorem dX4_restore_2 : decode cX4_restore 2 = .ok (.getfield 47, 3) := by decide +kernel
theorem dX4_restore_5 : decode cX4_restore 5 = .ok (.ifCond .eq 7, 3) := by decide +kernel
theorem dX4_restore_8 : decode cX4_restore 8 = .ok (.iconst 0, 1) := by decide +kernel
theorem dX4_restore_9 : decode cX4_restore 9 = .ok (.goto 4, 3) := by decide +kernel
theorem dX4_restore_12 : decode cX4_restore 12 = .ok (.iconst 1, 1) := by decide +kernel
theorem dX4_restore_13 : decode cX4_restore 13 = .ok (.putfield 25, 3) := by decide +kernel
theorem dX4_restore_16 : decode cX4_restore 16 = .ok (.aload_n 0, 1) := by decide +kernel
theorem dX4_restore_17 : decode cX4_restore 17 = .ok (.getfield 25, 3) := by decide +kernel
theorem dX4_restore_20 : decode cX4_restore 20 = .ok (.ifCond .le 5, 3) := by decide +kernel
theorem dX4_restore_23 : decode cX4_restore 23 = .ok (.iconst 0, 1) := by decide +kernel
theorem dX4_restore_24 : decode cX4_restore 24 = .ok (.ireturn, 1) := by decide +kernel
theorem dX4_restore_25 : decode cX4_restore 25 = .ok (.aload_n 0, 1) := by decide +kernel
theorem dX4_restore_26 : decode cX4_restore 26 = .ok (.invokevirtual 51, 3) := by decide +kernel
theorem dX4_restore_29 : decode cX4_restore 29 = .ok (.iconst 0, 1) := by decide +kernel
theorem dX4_restore_30 : decode cX4_restore 30 = .ok (.istore_n 1, 1) := by decide +kernel
theorem dX4_restore_31 : decode cX4_restore 31 = .ok (.iload_n 1, 1) := by decide +kernel
theorem dX4_restore_32 : decode cX4_restore 32 = .ok (.sipush 232, 3) := by decide +kernel
theorem dX4_restore_35 : decode cX4_restore 35 = .ok (.if_icmp .ge 21, 3) := by decide +kernel
theorem dX4_restore_38 : decode cX4_restore 38 = .ok (.aload_n 0, 1) := by decide +kernel
theorem dX4_restore_39 : decode cX4_restore 39 = .ok (.getfield 7, 3) := by decide +kernel
theorem dX4_restore_42 : decode cX4_restore 42 = .ok (.iload_n 1, 1) := by decide +kernel
theorem dX4_restore_43 : decode cX4_restore 43 = .ok (.aload_n 0, 1) := by decide +kernel
theorem dX4_restore_44 : decode cX4_restore 44 = .ok (.getfield 19, 3) := by decide +kernel
theorem dX4_restore_47 : decode cX4_restore 47 = .ok (.iload_n 1, 1) := by decide +kernel
theorem dX4_restore_48 : decode cX4_restore 48 = .ok (.iaload, 1) := by decide +kernel
theorem dX4_restore_49 : decode cX4_restore 49 = .ok (.iastore, 1) := by decide +kernel
theorem dX4_restore_50 : decode cX4_restore 50 = .ok (.iinc 1 1, 3) := by decide +kernel
theorem dX4_restore_53 : decode cX4_restore 53 = .ok (.goto (-22), 3) := by decide +kernel
theorem dX4_restore_56 : decode cX4_restore 56 = .ok (.aload_n 0, 1) := by decide +kernel
theorem dX4_restore_57 : decode cX4_restore 57 = .ok (.getfield 7, 3) := by decide +kernel
theorem dX4_restore_60 : decode cX4_restore 60 = .ok (.sipush 169, 3) := by decide +kernel
theorem dX4_restore_63 : decode cX4_restore 63 = .ok (.iaload, 1) := by decide +kernel
theorem dX4_restore_64 : decode cX4_restore 64 = .ok (.ireturn, 1) := by decide +kernel
theorem dX4_putAside_0 : decode cX4_putAside 0 = .ok (.iconst 0, 1) := by decide +kernel
theorem dX4_putAside_1 : decode cX4_putAside 1 = .ok (.istore_n 1, 1) := by decide +kernel
theorem dX4_putAside_2 : decode cX4_putAside 2 = .ok (.iload_n 1, 1) := by decide +kernel
theorem dX4_putAside_3 : decode cX4_putAside 3 = .ok (.sipush 232, 3) := by decide +kernel
theorem dX4_putAside_6 : decode cX4_putAside 6 = .ok (.if_icmp .ge 21, 3) := by decide +kernel
theorem dX4_putAside_9 : decode cX4_putAside 9 = .ok (.aload_n 0, 1) := by decide +kernel
theorem dX4_putAside_10 : decode cX4_putAside 10 = .ok (.getfield 13, 3) := by decide +kernel
theorem dX4_putAside_13 : decode cX4_putAside 13 = .ok (.iload_n 1, 1) := by decide +kernel
theorem dX4_putAside_14 : decode cX4_putAside 14 = .ok (.aload_n 0, 1) := by decide +kernel
theorem dX4_putAside_15 : decode cX4_putAside 15 = .ok (.getfield 7, 3) := by decide +kernel
theorem dX4_putAside_18 : decode cX4_putAside 18 = .ok (.iload_n 1, 1) := by decide +kernel
theorem dX4_putAside_19 : decode cX4_putAside 19 = .ok (.iaload, 1) := by decide +kernel
theorem dX4_putAside_20 : decode cX4_putAside 20 = .ok (.iastore, 1) := by decide +kernel
theorem dX4_putAside_21 : decode cX4_putAside 21 = .ok (.iinc 1 1, 3) := by decide +kernel
theorem dX4_putAside_24 : decode cX4_putAside 24 = .ok (.goto (-22), 3) := by decide +kernel
theorem dX4_putAside_27 : decode cX4_putAside 27 = .ok (.return_, 1) := by decide +kernel
theorem dX4_putBack_0 : decode cX4_putBack 0 = .ok (.iconst 0, 1) := by decide +kernel
theorem dX4_putBack_1 : decode cX4_putBack 1 = .ok (.istore_n 1, 1) := by decide +kernel
theorem dX4_putBack_2 : decode cX4_putBack 2 = .ok (.iload_n 1, 1) := by decide +kernel
theorem dX4_putBack_3 : decode cX4_putBack 3 = .ok (.sipush 232, 3) := by decide +kernel
theorem dX4_putBack_6 : decode cX4_putBack 6 = .ok (.if_icmp .ge 21, 3) := by decide +kernel
theorem dX4_putBack_9 : decode cX4_putBack 9 = .ok (.aload_n 0, 1) := by decide +kernel
theorem dX4_putBack_10 : decode cX4_putBack 10 = .ok (.getfield 7, 3) := by decide +kernel
theorem dX4_putBack_13 : decode cX4_putBack 13 = .ok (.iload_n 1, 1) := by decide +kernel
theorem dX4_putBack_14 : decode cX4_putBack 14 = .ok (.aload_n 0, 1) := by decide +kernel
theorem dX4_putBack_15 : decode cX4_putBack 15 = .ok (.getfield 13, 3) := by decide +kernel
theorem dX4_putBack_18 : decode cX4_putBack 18 = .ok (.iload_n 1, 1) := by decide +kernel
theorem dX4_putBack_19 : decode cX4_putBack 19 = .ok (.iaload, 1) := by decide +kernel
theorem dX4_putBack_20 : decode cX4_putBack 20 = .ok (.iastore, 1) := by decide +kernel
theorem dX4_putBack_21 : decode cX4_putBack 21 = .ok (.iinc 1 1, 3) := by decide +kernel
theorem dX4_putBack_24 : decode cX4_putBack 24 = .ok (.goto (-22), 3) := by decide +kernel
theorem dX4_putBack_27 : decode cX4_putBack 27 = .ok (.return_, 1) := by decide +kernel
set_option maxRecDepth 20000 in
theorem ggX4_isFree_X4_isOpen : GoodIn wsX4_isFree wsX4_isOpen := goodIn_r _ [5, 6, 22, 23, 24, 25, 26, 27, 28, 29, 30, 31, 32, 33] (by decide +kernel) (by decide +kernel)
set_option maxRecDepth 20000 in
theorem gX4_isFree_X4_isOpen : GoodIn wsX4_isFree (wsV RX4 41 RX4 yX4_isOpen wsX4_isOpen) := goodIn_app (goodIn_of _ (by decide +kernel)) ggX4_isFree_X4_isOpen
set_option maxRecDepth 20000 in
theorem ggX4_isFree_X4_sitter : GoodIn wsX4_isFree wsX4_sitter := goodIn_r _ [10, 11, 12, 13, 4, 14, 15, 16, 17, 18, 19, 20, 21, 6, 22, 23, 24, 25, 26, 27, 28, 29, 30, 31, 32, 33] (by decide +kernel) (by decide +kernel)
set_option maxRecDepth 20000 in
theorem gX4_isFree_X4_sitter : GoodIn wsX4_isFree (wsV RX4 54 RX4 yX4_sitter wsX4_sitter) := goodIn_app (goodIn_of _ (by decide +kernel)) ggX4_isFree_X4_sitter
theorem dX4_isFree_0 : decode cX4_isFree 0 = .ok (.aload_n 0, 1) := by decide +kernel
theorem dX4_isFree_1 : decode cX4_isFree 1 = .ok (.iload_n 1, 1) := by decide +kernel
theorem dX4_isFree_2 : decode cX4_isFree 2 = .ok (.invokevirtual 41, 3) := by decide +kernel
theorem dX4_isFree_5 : decode cX4_isFree 5 = .ok (.ifCond .eq 15, 3) := by decide +kernel
theorem dX4_isFree_8 : decode cX4_isFree 8 = .ok (.aload_n 0, 1) := by decide +kernel
theorem dX4_isFree_9 : decode cX4_isFree 9 = .ok (.iload_n 1, 1) := by decide +kernel
theorem dX4_isFree_10 : decode cX4_isFree 10 = .ok (.invokevirtual 54, 3) := by decide +kernel
theorem dX4_isFree_13 : decode cX4_isFree 13 = .ok (.ifCond .ge 7, 3) := by decide +kernel
theorem dX4_isFree_16 : decode cX4_isFree 16 = .ok (.iconst 1, 1) := by decide +kernel
theorem dX4_isFree_17 : decode cX4_isFree 17 = .ok (.goto 4, 3) := by decide +kernel
theorem dX4_isFree_20 : decode cX4_isFree 20 = .ok (.iconst 0, 1) := by decide +kernel
theorem dX4_isFree_21 : decode cX4_isFree 21 = .ok (.ireturn, 1) := by decide +kernel
set_option maxRecDepth 20000 in
theorem ggX4_freeFor_X4_of : GoodIn wsX4_freeFor wsX4_of := goodIn_r _ [5, 6, 29, 30, 31, 32, 33, 34, 35, 36, 37, 38, 39, 40] (by decide +kernel) (by decide +kernel)
set_option maxRecDepth 20000 in
theorem gX4_freeFor_X4_of : GoodIn wsX4_freeFor (wsV RX4 33 RX4 yX4_of wsX4_of) := goodIn_app (goodIn_of _ (by decide +kernel)) ggX4_freeFor_X4_of
set_option maxRecDepth 20000 in
theorem ggX4_freeFor_X4_in : GoodIn wsX4_freeFor wsX4_in := goodIn_r _ [9] (by decide +kernel) (by decide +kernel)
set_option maxRecDepth 20000 in
theorem gX4_freeFor_X4_in : GoodIn wsX4_freeFor (va_wsS RX4 29 yX4_in wsX4_in) := goodIn_app (goodIn_of _ (by decide +kernel)) ggX4_freeFor_X4_in
set_option maxRecDepth 20000 in
theorem ggX4_freeFor_X4_isHole : GoodIn wsX4_freeFor wsX4_isHole := goodIn_r _ [12, 7, 8, 4, 9] (by decide +kernel) (by decide +kernel)
set_option maxRecDepth 20000 in
theorem gX4_freeFor_X4_isHole : GoodIn wsX4_freeFor (va_wsS RX4 58 yX4_isHole wsX4_isHole) := goodIn_app (goodIn_of _ (by decide +kernel)) ggX4_freeFor_X4_isHole
set_option maxRecDepth 20000 in
theorem ggX4_freeFor_X4_isFree : GoodIn wsX4_freeFor wsX4_isFree := goodIn_r _ [16, 17, 18, 19, 4, 20, 6, 21, 22, 23, 24, 25, 26, 27, 28, 7, 8, 9, 1, 2, 3, 5, 29, 30, 31, 32, 33, 34, 35, 36, 37, 38, 39, 40] (by decide +kernel) (by decide +kernel)
set_option maxRecDepth 20000 in
theorem gX4_freeFor_X4_isFree : GoodIn wsX4_freeFor (wsV RX4 61 RX4 yX4_isFree wsX4_isFree) := goodIn_app (goodIn_of _ (by decide +kernel)) ggX4_freeFor_X4_isFree
theorem dX4_freeFor_0 : decode cX4_freeFor 0 = .ok (.aload_n 0, 1) := by decide +kernel
theorem dX4_freeFor_1 : decode cX4_freeFor 1 = .ok (.iload_n 1, 1) := by decide +kernel
theorem dX4_freeFor_2 : decode cX4_freeFor 2 = .ok (.iconst 4, 1) := by decide +kernel
theorem dX4_freeFor_3 : decode cX4_freeFor 3 = .ok (.invokevirtual 33, 3) := by decide +kernel
theorem dX4_freeFor_6 : decode cX4_freeFor 6 = .ok (.istore_n 2, 1) := by decide +kernel
theorem dX4_freeFor_7 : decode cX4_freeFor 7 = .ok (.iload_n 2, 1) := by decide +kernel
theorem dX4_freeFor_8 : decode cX4_freeFor 8 = .ok (.ifCond .lt 62, 3) := by decide +kernel
theorem dX4_freeFor_11 : decode cX4_freeFor 11 = .ok (.aload_n 0, 1) := by decide +kernel
theorem dX4_freeFor_12 : decode cX4_freeFor 12 = .ok (.iload_n 2, 1) := by decide +kernel
theorem dX4_freeFor_13 : decode cX4_freeFor 13 = .ok (.iconst 3, 1) := by decide +kernel
theorem dX4_freeFor_14 : decode cX4_freeFor 14 = .ok (.invokevirtual 33, 3) := by decide +kernel
theorem dX4_freeFor_17 : decode cX4_freeFor 17 = .ok (.iconst 0, 1) := by decide +kernel
theorem dX4_freeFor_18 : decode cX4_freeFor 18 = .ok (.bipush 23, 2) := by decide +kernel
theorem dX4_freeFor_20 : decode cX4_freeFor 20 = .ok (.invokestatic 29, 3) := by decide +kernel
theorem dX4_freeFor_23 : decode cX4_freeFor 23 = .ok (.ifCond .eq 47, 3) := by decide +kernel
theorem dX4_freeFor_26 : decode cX4_freeFor 26 = .ok (.aload_n 0, 1) := by decide +kernel
theorem dX4_freeFor_27 : decode cX4_freeFor 27 = .ok (.iload_n 2, 1) := by decide +kernel
theorem dX4_freeFor_28 : decode cX4_freeFor 28 = .ok (.iconst 3, 1) := by decide +kernel
theorem dX4_freeFor_29 : decode cX4_freeFor 29 = .ok (.invokevirtual 33, 3) := by decide +kernel
theorem dX4_freeFor_32 : decode cX4_freeFor 32 = .ok (.iconst 1, 1) := by decide +kernel
theorem dX4_freeFor_33 : decode cX4_freeFor 33 = .ok (.isub, 1) := by decide +kernel
theorem dX4_freeFor_34 : decode cX4_freeFor 34 = .ok (.istore_n 3, 1) := by decide +kernel
theorem dX4_freeFor_35 : decode cX4_freeFor 35 = .ok (.iload_n 3, 1) := by decide +kernel
theorem dX4_freeFor_36 : decode cX4_freeFor 36 = .ok (.aload_n 0, 1) := by decide +kernel
theorem dX4_freeFor_37 : decode cX4_freeFor 37 = .ok (.iload_n 2, 1) := by decide +kernel
theorem dX4_freeFor_38 : decode cX4_freeFor 38 = .ok (.iconst 3, 1) := by decide +kernel
theorem dX4_freeFor_39 : decode cX4_freeFor 39 = .ok (.invokevirtual 33, 3) := by decide +kernel
theorem dX4_freeFor_42 : decode cX4_freeFor 42 = .ok (.iconst 1, 1) := by decide +kernel
theorem dX4_freeFor_43 : decode cX4_freeFor 43 = .ok (.iadd, 1) := by decide +kernel
theorem dX4_freeFor_44 : decode cX4_freeFor 44 = .ok (.if_icmp .gt 26, 3) := by decide +kernel
theorem dX4_freeFor_47 : decode cX4_freeFor 47 = .ok (.iload_n 3, 1) := by decide +kernel
theorem dX4_freeFor_48 : decode cX4_freeFor 48 = .ok (.invokestatic 58, 3) := by decide +kernel
theorem dX4_freeFor_51 : decode cX4_freeFor 51 = .ok (.ifCond .eq 13, 3) := by decide +kernel
theorem dX4_freeFor_54 : decode cX4_freeFor 54 = .ok (.aload_n 0, 1) := by decide +kernel
theorem dX4_freeFor_55 : decode cX4_freeFor 55 = .ok (.iload_n 3, 1) := by decide +kernel
theorem dX4_freeFor_56 : decode cX4_freeFor 56 = .ok (.invokevirtual 61, 3) := by decide +kernel
theorem dX4_freeFor_59 : decode cX4_freeFor 59 = .ok (.ifCond .eq 5, 3) := by decide +kernel
theorem dX4_freeFor_62 : decode cX4_freeFor 62 = .ok (.iload_n 3, 1) := by decide +kernel
theorem dX4_freeFor_63 : decode cX4_freeFor 63 = .ok (.ireturn, 1) := by decide +kernel
theorem dX4_freeFor_64 : decode cX4_freeFor 64 = .ok (.iinc 3 2, 3) := by decide +kernel
theorem dX4_freeFor_67 : decode cX4_freeFor 67 = .ok (.goto (-32), 3) := by decide +kernel
theorem dX4_freeFor_70 : decode cX4_freeFor 70 = .ok (.iconst 0, 1) := by decide +kernel
theorem dX4_freeFor_71 : decode cX4_freeFor 71 = .ok (.istore_n 3, 1) := by decide +kernel
theorem dX4_freeFor_72 : decode cX4_freeFor 72 = .ok (.iload_n 3, 1) := by decide +kernel
theorem dX4_freeFor_73 : decode cX4_freeFor 73 = .ok (.bipush 24, 2) := by decide +kernel
theorem dX4_freeFor_75 : decode cX4_freeFor 75 = .ok (.if_icmp .ge 34, 3) := by decide +kernel
theorem dX4_freeFor_78 : decode cX4_freeFor 78 = .ok (.aload_n 0, 1) := by decide +kernel
theorem dX4_freeFor_79 : decode cX4_freeFor 79 = .ok (.iload_n 1, 1) := by decide +kernel
theorem dX4_freeFor_80 : decode cX4_freeFor 80 = .ok (.iconst 1, 1) := by decide +kernel
theorem dX4_freeFor_81 : decode cX4_freeFor 81 = .ok (.invokevirtual 33, 3) := by decide +kernel
theorem dX4_freeFor_84 : decode cX4_freeFor 84 = .ok (.iload_n 3, 1) := by decide +kernel
theorem dX4_freeFor_85 : decode cX4_freeFor 85 = .ok (.iadd, 1) := by decide +kernel
theorem dX4_freeFor_86 : decode cX4_freeFor 86 = .ok (.bipush 24, 2) := by decide +kernel
theorem dX4_freeFor_88 : decode cX4_freeFor 88 = .ok (.irem, 1) := by decide +kernel
theorem dX4_freeFor_89 : decode cX4_freeFor 89 = .ok (.istore 4, 2) := by decide +kernel
theorem dX4_freeFor_91 : decode cX4_freeFor 91 = .ok (.aload_n 0, 1) := by decide +kernel
theorem dX4_freeFor_92 : decode cX4_freeFor 92 = .ok (.iload 4, 2) := by decide +kernel
theorem dX4_freeFor_94 : decode cX4_freeFor 94 = .ok (.invokevirtual 61, 3) := by decide +kernel
theorem dX4_freeFor_97 : decode cX4_freeFor 97 = .ok (.ifCond .eq 6, 3) := by decide +kernel
theorem dX4_freeFor_100 : decode cX4_freeFor 100 = .ok (.iload 4, 2) := by decide +kernel
theorem dX4_freeFor_102 : decode cX4_freeFor 102 = .ok (.ireturn, 1) := by decide +kernel
theorem dX4_freeFor_103 : decode cX4_freeFor 103 = .ok (.iinc 3 1, 3) := by decide +kernel
theorem dX4_freeFor_106 : decode cX4_freeFor 106 = .ok (.goto (-34), 3) := by decide +kernel
theorem dX4_freeFor_109 : decode cX4_freeFor 109 = .ok (.iconst (-1), 1) := by decide +kernel
theorem dX4_freeFor_110 : decode cX4_freeFor 110 = .ok (.ireturn, 1) := by decide +kernel
set_option maxRecDepth 20000 in
theorem ggX4_sit_X4_put : GoodIn wsX4_sit wsX4_put := goodIn_r _ [6, 1, 7, 8, 9, 10, 11, 12, 13, 14, 15, 16, 17, 18] (by decide +kernel) (by decide +kernel)
set_option maxRecDepth 20000 in
theorem gX4_sit_X4_put : GoodIn wsX4_sit (wsV RX4 64 RX4 yX4_put wsX4_put) := goodIn_app (goodIn_of _ (by decide +kernel)) ggX4_sit_X4_put
theorem dX4_sit_0 : decode cX4_sit 0 = .ok (.aload_n 0, 1) := by decide +kernel
theorem dX4_sit_1 : decode cX4_sit 1 = .ok (.iload_n 1, 1) := by decide +kernel
theorem dX4_sit_2 : decode cX4_sit 2 = .ok (.iconst 3, 1) := by decide +kernel
theorem dX4_sit_3 : decode cX4_sit 3 = .ok (.iload_n 2, 1) := by decide +kernel
theorem dX4_sit_4 : decode cX4_sit 4 = .ok (.invokevirtual 64, 3) := by decide +kernel
theorem dX4_sit_7 : decode cX4_sit 7 = .ok (.aload_n 0, 1) := by decide +kernel
theorem dX4_sit_8 : decode cX4_sit 8 = .ok (.getfield 7, 3) := by decide +kernel
theorem dX4_sit_11 : decode cX4_sit 11 = .ok (.sipush 181, 3) := by decide +kernel
theorem dX4_sit_14 : decode cX4_sit 14 = .ok (.iconst 2, 1) := by decide +kernel
theorem dX4_sit_15 : decode cX4_sit 15 = .ok (.aload_n 0, 1) := by decide +kernel
theorem dX4_sit_16 : decode cX4_sit 16 = .ok (.getfield 7, 3) := by decide +kernel
theorem dX4_sit_19 : decode cX4_sit 19 = .ok (.sipush 180, 3) := by decide +kernel
theorem dX4_sit_22 : decode cX4_sit 22 = .ok (.iaload, 1) := by decide +kernel
theorem dX4_sit_23 : decode cX4_sit 23 = .ok (.imul, 1) := by decide +kernel
theorem dX4_sit_24 : decode cX4_sit 24 = .ok (.iadd, 1) := by decide +kernel
theorem dX4_sit_25 : decode cX4_sit 25 = .ok (.iload_n 1, 1) := by decide +kernel
theorem dX4_sit_26 : decode cX4_sit 26 = .ok (.iastore, 1) := by decide +kernel
theorem dX4_sit_27 : decode cX4_sit 27 = .ok (.aload_n 0, 1) := by decide +kernel
theorem dX4_sit_28 : decode cX4_sit 28 = .ok (.getfield 7, 3) := by decide +kernel
theorem dX4_sit_31 : decode cX4_sit 31 = .ok (.sipush 181, 3) := by decide +kernel
theorem dX4_sit_34 : decode cX4_sit 34 = .ok (.iconst 2, 1) := by decide +kernel
theorem dX4_sit_35 : decode cX4_sit 35 = .ok (.aload_n 0, 1) := by decide +kernel
theorem dX4_sit_36 : decode cX4_sit 36 = .ok (.getfield 7, 3) := by decide +kernel
theorem dX4_sit_39 : decode cX4_sit 39 = .ok (.sipush 180, 3) := by decide +kernel
theorem dX4_sit_42 : decode cX4_sit 42 = .ok (.iaload, 1) := by decide +kernel
theorem dX4_sit_43 : decode cX4_sit 43 = .ok (.imul, 1) := by decide +kernel
theorem dX4_sit_44 : decode cX4_sit 44 = .ok (.iadd, 1) := by decide +kernel
theorem dX4_sit_45 : decode cX4_sit 45 = .ok (.iconst 1, 1) := by decide +kernel
theorem dX4_sit_46 : decode cX4_sit 46 = .ok (.iadd, 1) := by decide +kernel
theorem dX4_sit_47 : decode cX4_sit 47 = .ok (.iload_n 2, 1) := by decide +kernel
theorem dX4_sit_48 : decode cX4_sit 48 = .ok (.iastore, 1) := by decide +kernel
theorem dX4_sit_49 : decode cX4_sit 49 = .ok (.aload_n 0, 1) := by decide +kernel
theorem dX4_sit_50 : decode cX4_sit 50 = .ok (.getfield 7, 3) := by decide +kernel
theorem dX4_sit_53 : decode cX4_sit 53 = .ok (.sipush 180, 3) := by decide +kernel
theorem dX4_sit_56 : decode cX4_sit 56 = .ok (.dup2, 1) := by decide +kernel
theorem dX4_sit_57 : decode cX4_sit 57 = .ok (.iaload, 1) := by decide +kernel
theorem dX4_sit_58 : decode cX4_sit 58 = .ok (.iconst 1, 1) := by decide +kernel
theorem dX4_sit_59 : decode cX4_sit 59 = .ok (.iadd, 1) := by decide +kernel
theorem dX4_sit_60 : decode cX4_sit 60 = .ok (.iastore, 1) := by decide +kernel
theorem dX4_sit_61 : decode cX4_sit 61 = .ok (.return_, 1) := by decide +kernel
set_option maxRecDepth 20000 in
theorem ggX4_countShift_X4_of : GoodIn wsX4_countShift wsX4_of := goodIn_r _ [6, 1, 11, 12, 13, 14, 15, 16, 17, 18, 19, 20, 21, 22] (by decide +kernel) (by decide +kernel)
set_option maxRecDepth 20000 in
theorem gX4_countShift_X4_of : GoodIn wsX4_countShift (wsV RX4 33 RX4 yX4_of wsX4_of) := goodIn_app (goodIn_of _ (by decide +kernel)) ggX4_countShift_X4_of
set_option maxRecDepth 20000 in
theorem ggX4_countShift_X4_put : GoodIn wsX4_countShift wsX4_put := goodIn_r _ [10, 1, 11, 12, 13, 14, 15, 16, 17, 18, 19, 20, 21, 22] (by decide +kernel) (by decide +kernel)
set_option maxRecDepth 20000 in
theorem gX4_countShift_X4_put : GoodIn wsX4_countShift (wsV RX4 64 RX4 yX4_put wsX4_put) := goodIn_app (goodIn_of _ (by decide +kernel)) ggX4_countShift_X4_put
theorem dX4_countShift_0 : decode cX4_countShift 0 = .ok (.aload_n 0, 1) := by decide +kernel
theorem dX4_countShift_1 : decode cX4_countShift 1 = .ok (.getfield 7, 3) := by decide +kernel
theorem dX4_countShift_4 : decode cX4_countShift 4 = .ok (.sipush 172, 3) := by decide +kernel
theorem dX4_countShift_7 : decode cX4_countShift 7 = .ok (.dup2, 1) := by decide +kernel
theorem dX4_countShift_8 : decode cX4_countShift 8 = .ok (.iaload, 1) := by decide +kernel
theorem dX4_countShift_9 : decode cX4_countShift 9 = .ok (.iconst 1, 1) := by decide +kernel
theorem dX4_countShift_10 : decode cX4_countShift 10 = .ok (.iadd, 1) := by decide +kernel
theorem dX4_countShift_11 : decode cX4_countShift 11 = .ok (.iastore, 1) := by decide +kernel
theorem dX4_countShift_12 : decode cX4_countShift 12 = .ok (.aload_n 0, 1) := by decide +kernel
theorem dX4_countShift_13 : decode cX4_countShift 13 = .ok (.getfield 7, 3) := by decide +kernel
theorem dX4_countShift_16 : decode cX4_countShift 16 = .ok (.sipush 173, 3) := by decide +kernel
theorem dX4_countShift_19 : decode cX4_countShift 19 = .ok (.dup2, 1) := by decide +kernel
theorem dX4_countShift_20 : decode cX4_countShift 20 = .ok (.iaload, 1) := by decide +kernel
theorem dX4_countShift_21 : decode cX4_countShift 21 = .ok (.aload_n 0, 1) := by decide +kernel
theorem dX4_countShift_22 : decode cX4_countShift 22 = .ok (.iload_n 1, 1) := by decide +kernel
theorem dX4_countShift_23 : decode cX4_countShift 23 = .ok (.iconst 4, 1) := by decide +kernel
theorem dX4_countShift_24 : decode cX4_countShift 24 = .ok (.invokevirtual 33, 3) := by decide +kernel
theorem dX4_countShift_27 : decode cX4_countShift 27 = .ok (.iload_n 2, 1) := by decide +kernel
theorem dX4_countShift_28 : decode cX4_countShift 28 = .ok (.if_icmp .ne 7, 3) := by decide +kernel
theorem dX4_countShift_31 : decode cX4_countShift 31 = .ok (.iconst 0, 1) := by decide +kernel
theorem dX4_countShift_32 : decode cX4_countShift 32 = .ok (.goto 4, 3) := by decide +kernel
theorem dX4_countShift_35 : decode cX4_countShift 35 = .ok (.iconst 1, 1) := by decide +kernel
theorem dX4_countShift_36 : decode cX4_countShift 36 = .ok (.iadd, 1) := by decide +kernel
theorem dX4_countShift_37 : decode cX4_countShift 37 = .ok (.iastore, 1) := by decide +kernel
theorem dX4_countShift_38 : decode cX4_countShift 38 = .ok (.aload_n 0, 1) := by decide +kernel
theorem dX4_countShift_39 : decode cX4_countShift 39 = .ok (.iload_n 2, 1) := by decide +kernel
theorem dX4_countShift_40 : decode cX4_countShift 40 = .ok (.bipush 6, 2) := by decide +kernel
theorem dX4_countShift_42 : decode cX4_countShift 42 = .ok (.aload_n 0, 1) := by decide +kernel
theorem dX4_countShift_43 : decode cX4_countShift 43 = .ok (.iload_n 2, 1) := by decide +kernel
theorem dX4_countShift_44 : decode cX4_countShift 44 = .ok (.bipush 6, 2) := by decide +kernel
theorem dX4_countShift_46 : decode cX4_countShift 46 = .ok (.invokevirtual 33, 3) := by decide +kernel
theorem dX4_countShift_49 : decode cX4_countShift 49 = .ok (.iconst 1, 1) := by decide +kernel
theorem dX4_countShift_50 : decode cX4_countShift 50 = .ok (.iadd, 1) := by decide +kernel
theorem dX4_countShift_51 : decode cX4_countShift 51 = .ok (.invokevirtual 64, 3) := by decide +kernel
theorem dX4_countShift_54 : decode cX4_countShift 54 = .ok (.return_, 1) := by decide +kernel
set_option maxRecDepth 20000 in
theorem ggX4_doHome_X4_of : GoodIn wsX4_doHome wsX4_of := goodIn_r _ [6, 1, 45, 46, 47, 48, 49, 50, 51, 52, 53, 54, 55, 56] (by decide +kernel) (by decide +kernel)
set_option maxRecDepth 20000 in
theorem gX4_doHome_X4_of : GoodIn wsX4_doHome (wsV RX4 33 RX4 yX4_of wsX4_of) := goodIn_app (goodIn_of _ (by decide +kernel)) ggX4_doHome_X4_of
set_option maxRecDepth 20000 in
theorem ggX4_doHome_X4_put : GoodIn wsX4_doHome wsX4_put := goodIn_r _ [10, 1, 45, 46, 47, 48, 49, 50, 51, 52, 53, 54, 55, 56] (by decide +kernel) (by decide +kernel)
set_option maxRecDepth 20000 in
theorem gX4_doHome_X4_put : GoodIn wsX4_doHome (wsV RX4 64 RX4 yX4_put wsX4_put) := goodIn_app (goodIn_of _ (by decide +kernel)) ggX4_doHome_X4_put
set_option maxRecDepth 20000 in
theorem ggX4_doHome_X4_isOpen : GoodIn wsX4_doHome wsX4_isOpen := goodIn_r _ [14, 1, 45, 46, 47, 48, 49, 50, 51, 52, 53, 54, 55, 56] (by decide +kernel) (by decide +kernel)
set_option maxRecDepth 20000 in
theorem gX4_doHome_X4_isOpen : GoodIn wsX4_doHome (wsV RX4 41 RX4 yX4_isOpen wsX4_isOpen) := goodIn_app (goodIn_of _ (by decide +kernel)) ggX4_doHome_X4_isOpen
set_option maxRecDepth 20000 in
theorem ggX4_doHome_X4_sitter : GoodIn wsX4_doHome wsX4_sitter := goodIn_r _ [18, 19, 20, 21, 5, 22, 23, 24, 25, 2, 3, 4, 6, 1, 45, 46, 47, 48, 49, 50, 51, 52, 53, 54, 55, 56] (by decide +kernel) (by decide +kernel)
set_option maxRecDepth 20000 in
theorem gX4_doHome_X4_sitter : GoodIn wsX4_doHome (wsV RX4 54 RX4 yX4_sitter wsX4_sitter) := goodIn_app (goodIn_of _ (by decide +kernel)) ggX4_doHome_X4_sitter
set_option maxRecDepth 20000 in
theorem ggX4_doHome_X4_countShift : GoodIn wsX4_doHome wsX4_countShift := goodIn_r _ [29, 1, 2, 3, 4, 5, 6, 7, 8, 9, 10, 45, 46, 47, 48, 49, 50, 51, 52, 53, 54, 55, 56] (by decide +kernel) (by decide +kernel)
set_option maxRecDepth 20000 in
theorem gX4_doHome_X4_countShift : GoodIn wsX4_doHome (wsV RX4 68 RX4 yX4_countShift wsX4_countShift) := goodIn_app (goodIn_of _ (by decide +kernel)) ggX4_doHome_X4_countShift
set_option maxRecDepth 20000 in
theorem ggX4_doHome_X4_sit : GoodIn wsX4_doHome wsX4_sit := goodIn_r _ [33, 1, 7, 8, 9, 5, 10, 45, 46, 47, 48, 49, 50, 51, 52, 53, 54, 55, 56] (by decide +kernel) (by decide +kernel)
set_option maxRecDepth 20000 in
theorem gX4_doHome_X4_sit : GoodIn wsX4_doHome (wsV RX4 72 RX4 yX4_sit wsX4_sit) := goodIn_app (goodIn_of _ (by decide +kernel)) ggX4_doHome_X4_sit
set_option maxRecDepth 20000 in
theorem ggX4_doHome_X4_freeFor : GoodIn wsX4_doHome wsX4_freeFor := goodIn_r _ [37, 2, 3, 4, 5, 6, 1, 23, 24, 25, 38, 39, 40, 41, 42, 43, 44, 11, 12, 13, 14, 15, 16, 17, 18, 19, 20, 21, 22, 45, 46, 47, 48, 49, 50, 51, 52, 53, 54, 55, 56] (by decide +kernel) (by decide +kernel)
set_option maxRecDepth 20000 in
theorem gX4_doHome_X4_freeFor : GoodIn wsX4_doHome (wsV RX4 75 RX4 yX4_freeFor wsX4_freeFor) := goodIn_app (goodIn_of _ (by decide +kernel)) ggX4_doHome_X4_freeFor
theorem dX4_doHome_0 : decode cX4_doHome 0 = .ok (.aload_n 0, 1) := by decide +kernel
theorem dX4_doHome_1 : decode cX4_doHome 1 = .ok (.getfield 7, 3) := by decide +kernel
theorem dX4_doHome_4 : decode cX4_doHome 4 = .ok (.sipush 168, 3) := by decide +kernel
theorem dX4_doHome_7 : decode cX4_doHome 7 = .ok (.iload_n 2, 1) := by decide +kernel
theorem dX4_doHome_8 : decode cX4_doHome 8 = .ok (.iastore, 1) := by decide +kernel
theorem dX4_doHome_9 : decode cX4_doHome 9 = .ok (.aload_n 0, 1) := by decide +kernel
theorem dX4_doHome_10 : decode cX4_doHome 10 = .ok (.getfield 7, 3) := by decide +kernel
theorem dX4_doHome_13 : decode cX4_doHome 13 = .ok (.sipush 180, 3) := by decide +kernel
theorem dX4_doHome_16 : decode cX4_doHome 16 = .ok (.iconst 0, 1) := by decide +kernel
theorem dX4_doHome_17 : decode cX4_doHome 17 = .ok (.iastore, 1) := by decide +kernel
theorem dX4_doHome_18 : decode cX4_doHome 18 = .ok (.aload_n 0, 1) := by decide +kernel
theorem dX4_doHome_19 : decode cX4_doHome 19 = .ok (.getfield 7, 3) := by decide +kernel
theorem dX4_doHome_22 : decode cX4_doHome 22 = .ok (.sipush 171, 3) := by decide +kernel
theorem dX4_doHome_25 : decode cX4_doHome 25 = .ok (.iaload, 1) := by decide +kernel
theorem dX4_doHome_26 : decode cX4_doHome 26 = .ok (.istore_n 3, 1) := by decide +kernel
theorem dX4_doHome_27 : decode cX4_doHome 27 = .ok (.iconst 0, 1) := by decide +kernel
theorem dX4_doHome_28 : decode cX4_doHome 28 = .ok (.istore 4, 2) := by decide +kernel
theorem dX4_doHome_30 : decode cX4_doHome 30 = .ok (.iload_n 1, 1) := by decide +kernel
theorem dX4_doHome_31 : decode cX4_doHome 31 = .ok (.istore 5, 2) := by decide +kernel
theorem dX4_doHome_33 : decode cX4_doHome 33 = .ok (.aload_n 0, 1) := by decide +kernel
theorem dX4_doHome_34 : decode cX4_doHome 34 = .ok (.iload_n 1, 1) := by decide +kernel
theorem dX4_doHome_35 : decode cX4_doHome 35 = .ok (.iconst 1, 1) := by decide +kernel
theorem dX4_doHome_36 : decode cX4_doHome 36 = .ok (.invokevirtual 33, 3) := by decide +kernel
theorem dX4_doHome_39 : decode cX4_doHome 39 = .ok (.istore 6, 2) := by decide +kernel
theorem dX4_doHome_41 : decode cX4_doHome 41 = .ok (.iload_n 2, 1) := by decide +kernel
theorem dX4_doHome_42 : decode cX4_doHome 42 = .ok (.aload_n 0, 1) := by decide +kernel
theorem dX4_doHome_43 : decode cX4_doHome 43 = .ok (.getfield 7, 3) := by decide +kernel
theorem dX4_doHome_46 : decode cX4_doHome 46 = .ok (.sipush 170, 3) := by decide +kernel
theorem dX4_doHome_49 : decode cX4_doHome 49 = .ok (.iaload, 1) := by decide +kernel
theorem dX4_doHome_50 : decode cX4_doHome 50 = .ok (.if_icmp .le 20, 3) := by decide +kernel
theorem dX4_doHome_53 : decode cX4_doHome 53 = .ok (.aload_n 0, 1) := by decide +kernel
theorem dX4_doHome_54 : decode cX4_doHome 54 = .ok (.iload_n 1, 1) := by decide +kernel
theorem dX4_doHome_55 : decode cX4_doHome 55 = .ok (.iconst 5, 1) := by decide +kernel
theorem dX4_doHome_56 : decode cX4_doHome 56 = .ok (.aload_n 0, 1) := by decide +kernel
theorem dX4_doHome_57 : decode cX4_doHome 57 = .ok (.iload_n 1, 1) := by decide +kernel
theorem dX4_doHome_58 : decode cX4_doHome 58 = .ok (.iconst 5, 1) := by decide +kernel
theorem dX4_doHome_59 : decode cX4_doHome 59 = .ok (.invokevirtual 33, 3) := by decide +kernel
theorem dX4_doHome_62 : decode cX4_doHome 62 = .ok (.iconst 1, 1) := by decide +kernel
theorem dX4_doHome_63 : decode cX4_doHome 63 = .ok (.iadd, 1) := by decide +kernel
theorem dX4_doHome_64 : decode cX4_doHome 64 = .ok (.invokevirtual 64, 3) := by decide +kernel
theorem dX4_doHome_67 : decode cX4_doHome 67 = .ok (.goto 78, 3) := by decide +kernel
theorem dX4_doHome_70 : decode cX4_doHome 70 = .ok (.aload_n 0, 1) := by decide +kernel
theorem dX4_doHome_71 : decode cX4_doHome 71 = .ok (.iload 6, 2) := by decide +kernel
theorem dX4_doHome_73 : decode cX4_doHome 73 = .ok (.invokevirtual 41, 3) := by decide +kernel
theorem dX4_doHome_76 : decode cX4_doHome 76 = .ok (.ifCond .eq 69, 3) := by decide +kernel
theorem dX4_doHome_79 : decode cX4_doHome 79 = .ok (.aload_n 0, 1) := by decide +kernel
theorem dX4_doHome_80 : decode cX4_doHome 80 = .ok (.iload 6, 2) := by decide +kernel
theorem dX4_doHome_82 : decode cX4_doHome 82 = .ok (.invokevirtual 54, 3) := by decide +kernel
theorem dX4_doHome_85 : decode cX4_doHome 85 = .ok (.istore 7, 2) := by decide +kernel
theorem dX4_doHome_87 : decode cX4_doHome 87 = .ok (.iconst (-1), 1) := by decide +kernel
theorem dX4_doHome_88 : decode cX4_doHome 88 = .ok (.istore 5, 2) := by decide +kernel
theorem dX4_doHome_90 : decode cX4_doHome 90 = .ok (.iload 7, 2) := by decide +kernel
theorem dX4_doHome_92 : decode cX4_doHome 92 = .ok (.ifCond .lt 32, 3) := by decide +kernel
theorem dX4_doHome_95 : decode cX4_doHome 95 = .ok (.iload_n 3, 1) := by decide +kernel
theorem dX4_doHome_96 : decode cX4_doHome 96 = .ok (.ifCond .le 28, 3) := by decide +kernel
theorem dX4_doHome_99 : decode cX4_doHome 99 = .ok (.aload_n 0, 1) := by decide +kernel
theorem dX4_doHome_100 : decode cX4_doHome 100 = .ok (.iload_n 1, 1) := by decide +kernel
theorem dX4_doHome_101 : decode cX4_doHome 101 = .ok (.iload 7, 2) := by decide +kernel
theorem dX4_doHome_103 : decode cX4_doHome 103 = .ok (.invokevirtual 68, 3) := by decide +kernel
theorem dX4_doHome_106 : decode cX4_doHome 106 = .ok (.iinc 4 1, 3) := by decide +kernel
theorem dX4_doHome_109 : decode cX4_doHome 109 = .ok (.aload_n 0, 1) := by decide +kernel
theorem dX4_doHome_110 : decode cX4_doHome 110 = .ok (.iload 7, 2) := by decide +kernel
theorem dX4_doHome_112 : decode cX4_doHome 112 = .ok (.iconst 3, 1) := by decide +kernel
theorem dX4_doHome_113 : decode cX4_doHome 113 = .ok (.iconst (-1), 1) := by decide +kernel
theorem dX4_doHome_114 : decode cX4_doHome 114 = .ok (.invokevirtual 64, 3) := by decide +kernel
theorem dX4_doHome_117 : decode cX4_doHome 117 = .ok (.iload 7, 2) := by decide +kernel
theorem dX4_doHome_119 : decode cX4_doHome 119 = .ok (.istore 5, 2) := by decide +kernel
theorem dX4_doHome_121 : decode cX4_doHome 121 = .ok (.goto 17, 3) := by decide +kernel
theorem dX4_doHome_124 : decode cX4_doHome 124 = .ok (.iload 7, 2) := by decide +kernel
theorem dX4_doHome_126 : decode cX4_doHome 126 = .ok (.ifCond .lt 12, 3) := by decide +kernel
theorem dX4_doHome_129 : decode cX4_doHome 129 = .ok (.aload_n 0, 1) := by decide +kernel
theorem dX4_doHome_130 : decode cX4_doHome 130 = .ok (.iload 7, 2) := by decide +kernel
theorem dX4_doHome_132 : decode cX4_doHome 132 = .ok (.iconst 3, 1) := by decide +kernel
theorem dX4_doHome_133 : decode cX4_doHome 133 = .ok (.bipush 24, 2) := by decide +kernel
theorem dX4_doHome_135 : decode cX4_doHome 135 = .ok (.invokevirtual 64, 3) := by decide +kernel
theorem dX4_doHome_138 : decode cX4_doHome 138 = .ok (.aload_n 0, 1) := by decide +kernel
theorem dX4_doHome_139 : decode cX4_doHome 139 = .ok (.iload_n 1, 1) := by decide +kernel
theorem dX4_doHome_140 : decode cX4_doHome 140 = .ok (.iload 6, 2) := by decide +kernel
theorem dX4_doHome_142 : decode cX4_doHome 142 = .ok (.invokevirtual 72, 3) := by decide +kernel
theorem dX4_doHome_145 : decode cX4_doHome 145 = .ok (.iload 5, 2) := by decide +kernel
theorem dX4_doHome_147 : decode cX4_doHome 147 = .ok (.ifCond .lt 146, 3) := by decide +kernel
theorem dX4_doHome_150 : decode cX4_doHome 150 = .ok (.aload_n 0, 1) := by decide +kernel
theorem dX4_doHome_151 : decode cX4_doHome 151 = .ok (.iload 5, 2) := by decide +kernel
theorem dX4_doHome_153 : decode cX4_doHome 153 = .ok (.invokevirtual 75, 3) := by decide +kernel
theorem dX4_doHome_156 : decode cX4_doHome 156 = .ok (.istore 7, 2) := by decide +kernel
theorem dX4_doHome_158 : decode cX4_doHome 158 = .ok (.aload_n 0, 1) := by decide +kernel
theorem dX4_doHome_159 : decode cX4_doHome 159 = .ok (.iload 5, 2) := by decide +kernel
theorem dX4_doHome_161 : decode cX4_doHome 161 = .ok (.iconst 1, 1) := by decide +kernel
theorem dX4_doHome_162 : decode cX4_doHome 162 = .ok (.invokevirtual 33, 3) := by decide +kernel
theorem dX4_doHome_165 : decode cX4_doHome 165 = .ok (.iconst 1, 1) := by decide +kernel
theorem dX4_doHome_166 : decode cX4_doHome 166 = .ok (.iadd, 1) := by decide +kernel
theorem dX4_doHome_167 : decode cX4_doHome 167 = .ok (.bipush 24, 2) := by decide +kernel
theorem dX4_doHome_169 : decode cX4_doHome 169 = .ok (.irem, 1) := by decide +kernel
theorem dX4_doHome_170 : decode cX4_doHome 170 = .ok (.istore 8, 2) := by decide +kernel
theorem dX4_doHome_172 : decode cX4_doHome 172 = .ok (.iload 7, 2) := by decide +kernel
theorem dX4_doHome_174 : decode cX4_doHome 174 = .ok (.ifCond .ge 21, 3) := by decide +kernel
theorem dX4_doHome_177 : decode cX4_doHome 177 = .ok (.aload_n 0, 1) := by decide +kernel
theorem dX4_doHome_178 : decode cX4_doHome 178 = .ok (.iload 8, 2) := by decide +kernel
theorem dX4_doHome_180 : decode cX4_doHome 180 = .ok (.invokevirtual 41, 3) := by decide +kernel
theorem dX4_doHome_183 : decode cX4_doHome 183 = .ok (.ifCond .eq 12, 3) := by decide +kernel
theorem dX4_doHome_186 : decode cX4_doHome 186 = .ok (.aload_n 0, 1) := by decide +kernel
theorem dX4_doHome_187 : decode cX4_doHome 187 = .ok (.iload 8, 2) := by decide +kernel
theorem dX4_doHome_189 : decode cX4_doHome 189 = .ok (.invokevirtual 54, 3) := by decide +kernel
theorem dX4_doHome_192 : decode cX4_doHome 192 = .ok (.goto 4, 3) := by decide +kernel
theorem dX4_doHome_195 : decode cX4_doHome 195 = .ok (.iconst (-1), 1) := by decide +kernel
theorem dX4_doHome_196 : decode cX4_doHome 196 = .ok (.istore 9, 2) := by decide +kernel
theorem dX4_doHome_198 : decode cX4_doHome 198 = .ok (.iload 7, 2) := by decide +kernel
theorem dX4_doHome_200 : decode cX4_doHome 200 = .ok (.ifCond .lt 17, 3) := by decide +kernel
theorem dX4_doHome_203 : decode cX4_doHome 203 = .ok (.aload_n 0, 1) := by decide +kernel
theorem dX4_doHome_204 : decode cX4_doHome 204 = .ok (.iload 5, 2) := by decide +kernel
theorem dX4_doHome_206 : decode cX4_doHome 206 = .ok (.iload 7, 2) := by decide +kernel
theorem dX4_doHome_208 : decode cX4_doHome 208 = .ok (.invokevirtual 72, 3) := by decide +kernel
theorem dX4_doHome_211 : decode cX4_doHome 211 = .ok (.iconst (-1), 1) := by decide +kernel
theorem dX4_doHome_212 : decode cX4_doHome 212 = .ok (.istore 5, 2) := by decide +kernel
theorem dX4_doHome_214 : decode cX4_doHome 214 = .ok (.goto 76, 3) := by decide +kernel
theorem dX4_doHome_217 : decode cX4_doHome 217 = .ok (.iload 9, 2) := by decide +kernel
theorem dX4_doHome_219 : decode cX4_doHome 219 = .ok (.ifCond .lt 60, 3) := by decide +kernel
theorem dX4_doHome_222 : decode cX4_doHome 222 = .ok (.aload_n 0, 1) := by decide +kernel
theorem dX4_doHome_223 : decode cX4_doHome 223 = .ok (.iload 9, 2) := by decide +kernel
theorem dX4_doHome_225 : decode cX4_doHome 225 = .ok (.iconst 2, 1) := by decide +kernel
theorem dX4_doHome_226 : decode cX4_doHome 226 = .ok (.invokevirtual 33, 3) := by decide +kernel
theorem dX4_doHome_229 : decode cX4_doHome 229 = .ok (.aload_n 0, 1) := by decide +kernel
theorem dX4_doHome_230 : decode cX4_doHome 230 = .ok (.iload 5, 2) := by decide +kernel
theorem dX4_doHome_232 : decode cX4_doHome 232 = .ok (.iconst 2, 1) := by decide +kernel
theorem dX4_doHome_233 : decode cX4_doHome 233 = .ok (.invokevirtual 33, 3) := by decide +kernel
theorem dX4_doHome_236 : decode cX4_doHome 236 = .ok (.if_icmp .ge 43, 3) := by decide +kernel
theorem dX4_doHome_239 : decode cX4_doHome 239 = .ok (.iload 4, 2) := by decide +kernel
theorem dX4_doHome_241 : decode cX4_doHome 241 = .ok (.iload_n 3, 1) := by decide +kernel
theorem dX4_doHome_242 : decode cX4_doHome 242 = .ok (.if_icmp .ge 37, 3) := by decide +kernel
theorem dX4_doHome_245 : decode cX4_doHome 245 = .ok (.aload_n 0, 1) := by decide +kernel
theorem dX4_doHome_246 : decode cX4_doHome 246 = .ok (.iload 5, 2) := by decide +kernel
theorem dX4_doHome_248 : decode cX4_doHome 248 = .ok (.iload 9, 2) := by decide +kernel
theorem dX4_doHome_250 : decode cX4_doHome 250 = .ok (.invokevirtual 68, 3) := by decide +kernel
theorem dX4_doHome_253 : decode cX4_doHome 253 = .ok (.iinc 4 1, 3) := by decide +kernel
theorem dX4_doHome_256 : decode cX4_doHome 256 = .ok (.aload_n 0, 1) := by decide +kernel
theorem dX4_doHome_257 : decode cX4_doHome 257 = .ok (.iload 9, 2) := by decide +kernel
theorem dX4_doHome_259 : decode cX4_doHome 259 = .ok (.iconst 3, 1) := by decide +kernel
theorem dX4_doHome_260 : decode cX4_doHome 260 = .ok (.iconst (-1), 1) := by decide +kernel
theorem dX4_doHome_261 : decode cX4_doHome 261 = .ok (.invokevirtual 64, 3) := by decide +kernel
theorem dX4_doHome_264 : decode cX4_doHome 264 = .ok (.aload_n 0, 1) := by decide +kernel
theorem dX4_doHome_265 : decode cX4_doHome 265 = .ok (.iload 5, 2) := by decide +kernel
theorem dX4_doHome_267 : decode cX4_doHome 267 = .ok (.iload 8, 2) := by decide +kernel
theorem dX4_doHome_269 : decode cX4_doHome 269 = .ok (.invokevirtual 72, 3) := by decide +kernel
theorem dX4_doHome_272 : decode cX4_doHome 272 = .ok (.iload 9, 2) := by decide +kernel
theorem dX4_doHome_274 : decode cX4_doHome 274 = .ok (.istore 5, 2) := by decide +kernel
theorem dX4_doHome_276 : decode cX4_doHome 276 = .ok (.goto 14, 3) := by decide +kernel
theorem dX4_doHome_279 : decode cX4_doHome 279 = .ok (.aload_n 0, 1) := by decide +kernel
theorem dX4_doHome_280 : decode cX4_doHome 280 = .ok (.iload 5, 2) := by decide +kernel
theorem dX4_doHome_282 : decode cX4_doHome 282 = .ok (.bipush 24, 2) := by decide +kernel
theorem dX4_doHome_284 : decode cX4_doHome 284 = .ok (.invokevirtual 72, 3) := by decide +kernel
theorem dX4_doHome_287 : decode cX4_doHome 287 = .ok (.iconst (-1), 1) := by decide +kernel
theorem dX4_doHome_288 : decode cX4_doHome 288 = .ok (.istore 5, 2) := by decide +kernel
theorem dX4_doHome_290 : decode cX4_doHome 290 = .ok (.goto (-145), 3) := by decide +kernel
theorem dX4_doHome_293 : decode cX4_doHome 293 = .ok (.iload 4, 2) := by decide +kernel
theorem dX4_doHome_295 : decode cX4_doHome 295 = .ok (.ireturn, 1) := by decide +kernel
set_option maxRecDepth 20000 in
theorem ggX4_whyNoHome_X4_of : GoodIn wsX4_whyNoHome wsX4_of := goodIn_r _ [6, 1, 7, 8, 9, 10, 11, 12, 13, 14, 15, 16, 17, 18] (by decide +kernel) (by decide +kernel)
set_option maxRecDepth 20000 in
theorem gX4_whyNoHome_X4_of : GoodIn wsX4_whyNoHome (wsV RX4 33 RX4 yX4_of wsX4_of) := goodIn_app (goodIn_of _ (by decide +kernel)) ggX4_whyNoHome_X4_of
theorem dX4_whyNoHome_0 : decode cX4_whyNoHome 0 = .ok (.aload_n 0, 1) := by decide +kernel
theorem dX4_whyNoHome_1 : decode cX4_whyNoHome 1 = .ok (.iload_n 1, 1) := by decide +kernel
theorem dX4_whyNoHome_2 : decode cX4_whyNoHome 2 = .ok (.iconst 3, 1) := by decide +kernel
theorem dX4_whyNoHome_3 : decode cX4_whyNoHome 3 = .ok (.invokevirtual 33, 3) := by decide +kernel
theorem dX4_whyNoHome_6 : decode cX4_whyNoHome 6 = .ok (.iconst (-1), 1) := by decide +kernel
theorem dX4_whyNoHome_7 : decode cX4_whyNoHome 7 = .ok (.if_icmp .eq 7, 3) := by decide +kernel
theorem dX4_whyNoHome_10 : decode cX4_whyNoHome 10 = .ok (.iconst 1, 1) := by decide +kernel
theorem dX4_whyNoHome_11 : decode cX4_whyNoHome 11 = .ok (.goto 20, 3) := by decide +kernel
theorem dX4_whyNoHome_14 : decode cX4_whyNoHome 14 = .ok (.iload_n 2, 1) := by decide +kernel
theorem dX4_whyNoHome_15 : decode cX4_whyNoHome 15 = .ok (.aload_n 0, 1) := by decide +kernel
theorem dX4_whyNoHome_16 : decode cX4_whyNoHome 16 = .ok (.getfield 7, 3) := by decide +kernel
theorem dX4_whyNoHome_19 : decode cX4_whyNoHome 19 = .ok (.sipush 168, 3) := by decide +kernel
theorem dX4_whyNoHome_22 : decode cX4_whyNoHome 22 = .ok (.iaload, 1) := by decide +kernel
theorem dX4_whyNoHome_23 : decode cX4_whyNoHome 23 = .ok (.if_icmp .ge 7, 3) := by decide +kernel
theorem dX4_whyNoHome_26 : decode cX4_whyNoHome 26 = .ok (.iconst 2, 1) := by decide +kernel
theorem dX4_whyNoHome_27 : decode cX4_whyNoHome 27 = .ok (.goto 4, 3) := by decide +kernel
theorem dX4_whyNoHome_30 : decode cX4_whyNoHome 30 = .ok (.iconst 0, 1) := by decide +kernel
theorem dX4_whyNoHome_31 : decode cX4_whyNoHome 31 = .ok (.ireturn, 1) := by decide +kernel
set_option maxRecDepth 20000 in
theorem ggX4_home_X4_isDove : GoodIn wsX4_home wsX4_isDove := goodIn_r _ [6, 7, 8, 5, 9, 10, 11, 12, 13, 14, 60, 61, 62, 63, 64, 65, 66, 67, 68, 69, 70, 71] (by decide +kernel) (by decide +kernel)
set_option maxRecDepth 20000 in
theorem gX4_home_X4_isDove : GoodIn wsX4_home (wsV RX4 37 RX4 yX4_isDove wsX4_isDove) := goodIn_app (goodIn_of _ (by decide +kernel)) ggX4_home_X4_isDove
set_option maxRecDepth 20000 in
theorem ggX4_home_X4_in : GoodIn wsX4_home wsX4_in := goodIn_r _ [9] (by decide +kernel) (by decide +kernel)
set_option maxRecDepth 20000 in
theorem gX4_home_X4_in : GoodIn wsX4_home (va_wsS RX4 29 yX4_in wsX4_in) := goodIn_app (goodIn_of _ (by decide +kernel)) ggX4_home_X4_in
set_option maxRecDepth 20000 in
theorem ggX4_home_X4_whyNoHome : GoodIn wsX4_home wsX4_whyNoHome := goodIn_r _ [18, 14, 10, 11, 12, 5, 13, 60, 61, 62, 63, 64, 65, 66, 67, 68, 69, 70, 71] (by decide +kernel) (by decide +kernel)
set_option maxRecDepth 20000 in
theorem gX4_home_X4_whyNoHome : GoodIn wsX4_home (wsV RX4 78 RX4 yX4_whyNoHome wsX4_whyNoHome) := goodIn_app (goodIn_of _ (by decide +kernel)) ggX4_home_X4_whyNoHome
set_option maxRecDepth 20000 in
theorem ggX4_home_X4_record : GoodIn wsX4_home wsX4_record := goodIn_r _ [22, 23, 24, 14, 60, 61, 62, 63, 64, 65, 66, 67, 68, 69, 70, 71] (by decide +kernel) (by decide +kernel)
set_option maxRecDepth 20000 in
theorem gX4_home_X4_record : GoodIn wsX4_home (wsV RX4 51 RX4 yX4_record wsX4_record) := goodIn_app (goodIn_of _ (by decide +kernel)) ggX4_home_X4_record
set_option maxRecDepth 20000 in
theorem ggX4_home_X4_doHome : GoodIn wsX4_home wsX4_doHome := goodIn_r _ [28, 14, 10, 11, 12, 5, 13, 29, 30, 31, 32, 33, 34, 35, 36, 37, 38, 39, 40, 2, 3, 4, 6, 7, 8, 9, 41, 42, 43, 44, 45, 46, 47, 48, 49, 50, 51, 52, 53, 54, 55, 56, 57, 58, 59, 60, 61, 62, 63, 64, 65, 66, 67, 68, 69, 70, 71] (by decide +kernel) (by decide +kernel)
set_option maxRecDepth 20000 in
theorem gX4_home_X4_doHome : GoodIn wsX4_home (wsV RX4 81 RX4 yX4_doHome wsX4_doHome) := goodIn_app (goodIn_of _ (by decide +kernel)) ggX4_home_X4_doHome
theorem dX4_home_0 : decode cX4_home 0 = .ok (.aload_n 0, 1) := by decide +kernel
theorem dX4_home_1 : decode cX4_home 1 = .ok (.aload_n 0, 1) := by decide +kernel
theorem dX4_home_2 : decode cX4_home 2 = .ok (.iload_n 1, 1) := by decide +kernel
theorem dX4_home_3 : decode cX4_home 3 = .ok (.invokevirtual 37, 3) := by decide +kernel
theorem dX4_home_6 : decode cX4_home 6 = .ok (.ifCond .ne 7, 3) := by decide +kernel
theorem dX4_home_9 : decode cX4_home 9 = .ok (.iconst 1, 1) := by decide +kernel
theorem dX4_home_10 : decode cX4_home 10 = .ok (.goto 32, 3) := by decide +kernel
theorem dX4_home_13 : decode cX4_home 13 = .ok (.iload_n 2, 1) := by decide +kernel
theorem dX4_home_14 : decode cX4_home 14 = .ok (.iconst 0, 1) := by decide +kernel
theorem dX4_home_15 : decode cX4_home 15 = .ok (.sipush 1439, 3) := by decide +kernel
theorem dX4_home_18 : decode cX4_home 18 = .ok (.invokestatic 29, 3) := by decide +kernel
theorem dX4_home_21 : decode cX4_home 21 = .ok (.ifCond .ne 7, 3) := by decide +kernel
theorem dX4_home_24 : decode cX4_home 24 = .ok (.iconst 2, 1) := by decide +kernel
theorem dX4_home_25 : decode cX4_home 25 = .ok (.goto 17, 3) := by decide +kernel
theorem dX4_home_28 : decode cX4_home 28 = .ok (.aload_n 0, 1) := by decide +kernel
theorem dX4_home_29 : decode cX4_home 29 = .ok (.iload_n 1, 1) := by decide +kernel
theorem dX4_home_30 : decode cX4_home 30 = .ok (.iload_n 2, 1) := by decide +kernel
theorem dX4_home_31 : decode cX4_home 31 = .ok (.invokevirtual 78, 3) := by decide +kernel
theorem dX4_home_34 : decode cX4_home 34 = .ok (.ifCond .le 7, 3) := by decide +kernel
theorem dX4_home_37 : decode cX4_home 37 = .ok (.iconst 3, 1) := by decide +kernel
theorem dX4_home_38 : decode cX4_home 38 = .ok (.goto 4, 3) := by decide +kernel
theorem dX4_home_41 : decode cX4_home 41 = .ok (.iconst 0, 1) := by decide +kernel
theorem dX4_home_42 : decode cX4_home 42 = .ok (.putfield 25, 3) := by decide +kernel
theorem dX4_home_45 : decode cX4_home 45 = .ok (.aload_n 0, 1) := by decide +kernel
theorem dX4_home_46 : decode cX4_home 46 = .ok (.getfield 25, 3) := by decide +kernel
theorem dX4_home_49 : decode cX4_home 49 = .ok (.ifCond .le 5, 3) := by decide +kernel
theorem dX4_home_52 : decode cX4_home 52 = .ok (.iconst 0, 1) := by decide +kernel
theorem dX4_home_53 : decode cX4_home 53 = .ok (.ireturn, 1) := by decide +kernel
theorem dX4_home_54 : decode cX4_home 54 = .ok (.aload_n 0, 1) := by decide +kernel
theorem dX4_home_55 : decode cX4_home 55 = .ok (.invokevirtual 51, 3) := by decide +kernel
theorem dX4_home_58 : decode cX4_home 58 = .ok (.aload_n 0, 1) := by decide +kernel
theorem dX4_home_59 : decode cX4_home 59 = .ok (.iload_n 1, 1) := by decide +kernel
theorem dX4_home_60 : decode cX4_home 60 = .ok (.iload_n 2, 1) := by decide +kernel
theorem dX4_home_61 : decode cX4_home 61 = .ok (.invokevirtual 81, 3) := by decide +kernel
theorem dX4_home_64 : decode cX4_home 64 = .ok (.ireturn, 1) := by decide +kernel
set_option maxRecDepth 20000 in
theorem ggX4_doDawn_X4_dovesAt : GoodIn wsX4_doDawn wsX4_dovesAt := goodIn_r _ [6, 7, 8, 9, 5, 10, 11, 12, 13, 14, 15, 16, 17, 1, 22, 23, 24, 25, 26, 27, 28, 29, 30, 31, 32, 33] (by decide +kernel) (by decide +kernel)
set_option maxRecDepth 20000 in
theorem gX4_doDawn_X4_dovesAt : GoodIn wsX4_doDawn (wsV RX4 84 RX4 yX4_dovesAt wsX4_dovesAt) := goodIn_app (goodIn_of _ (by decide +kernel)) ggX4_doDawn_X4_dovesAt
set_option maxRecDepth 20000 in
theorem ggX4_doDawn_X4_isDove : GoodIn wsX4_doDawn wsX4_isDove := goodIn_r _ [10, 11, 12, 5, 13, 14, 15, 16, 17, 1, 22, 23, 24, 25, 26, 27, 28, 29, 30, 31, 32, 33] (by decide +kernel) (by decide +kernel)
set_option maxRecDepth 20000 in
theorem gX4_doDawn_X4_isDove : GoodIn wsX4_doDawn (wsV RX4 37 RX4 yX4_isDove wsX4_isDove) := goodIn_app (goodIn_of _ (by decide +kernel)) ggX4_doDawn_X4_isDove
set_option maxRecDepth 20000 in
theorem ggX4_doDawn_X4_of : GoodIn wsX4_doDawn wsX4_of := goodIn_r _ [17, 1, 22, 23, 24, 25, 26, 27, 28, 29, 30, 31, 32, 33] (by decide +kernel) (by decide +kernel)
set_option maxRecDepth 20000 in
theorem gX4_doDawn_X4_of : GoodIn wsX4_doDawn (wsV RX4 33 RX4 yX4_of wsX4_of) := goodIn_app (goodIn_of _ (by decide +kernel)) ggX4_doDawn_X4_of
set_option maxRecDepth 20000 in
theorem ggX4_doDawn_X4_put : GoodIn wsX4_doDawn wsX4_put := goodIn_r _ [21, 1, 22, 23, 24, 25, 26, 27, 28, 29, 30, 31, 32, 33] (by decide +kernel) (by decide +kernel)
set_option maxRecDepth 20000 in
theorem gX4_doDawn_X4_put : GoodIn wsX4_doDawn (wsV RX4 64 RX4 yX4_put wsX4_put) := goodIn_app (goodIn_of _ (by decide +kernel)) ggX4_doDawn_X4_put
theorem dX4_doDawn_0 : decode cX4_doDawn 0 = .ok (.aload_n 0, 1) := by decide +kernel
theorem dX4_doDawn_1 : decode cX4_doDawn 1 = .ok (.iconst 0, 1) := by decide +kernel
theorem dX4_doDawn_2 : decode cX4_doDawn 2 = .ok (.bipush 23, 2) := by decide +kernel
theorem dX4_doDawn_4 : decode cX4_doDawn 4 = .ok (.invokevirtual 84, 3) := by decide +kernel
theorem dX4_doDawn_7 : decode cX4_doDawn 7 = .ok (.istore_n 1, 1) := by decide +kernel
theorem dX4_doDawn_8 : decode cX4_doDawn 8 = .ok (.iconst 0, 1) := by decide +kernel
theorem dX4_doDawn_9 : decode cX4_doDawn 9 = .ok (.istore_n 2, 1) := by decide +kernel
theorem dX4_doDawn_10 : decode cX4_doDawn 10 = .ok (.iload_n 2, 1) := by decide +kernel
theorem dX4_doDawn_11 : decode cX4_doDawn 11 = .ok (.iconst 4, 1) := by decide +kernel
theorem dX4_doDawn_12 : decode cX4_doDawn 12 = .ok (.if_icmp .ge 20, 3) := by decide +kernel
theorem dX4_doDawn_15 : decode cX4_doDawn 15 = .ok (.aload_n 0, 1) := by decide +kernel
theorem dX4_doDawn_16 : decode cX4_doDawn 16 = .ok (.getfield 7, 3) := by decide +kernel
theorem dX4_doDawn_19 : decode cX4_doDawn 19 = .ok (.sipush 174, 3) := by decide +kernel
theorem dX4_doDawn_22 : decode cX4_doDawn 22 = .ok (.iload_n 2, 1) := by decide +kernel
theorem dX4_doDawn_23 : decode cX4_doDawn 23 = .ok (.iadd, 1) := by decide +kernel
theorem dX4_doDawn_24 : decode cX4_doDawn 24 = .ok (.iconst 0, 1) := by decide +kernel
theorem dX4_doDawn_25 : decode cX4_doDawn 25 = .ok (.iastore, 1) := by decide +kernel
theorem dX4_doDawn_26 : decode cX4_doDawn 26 = .ok (.iinc 2 1, 3) := by decide +kernel
theorem dX4_doDawn_29 : decode cX4_doDawn 29 = .ok (.goto (-19), 3) := by decide +kernel
theorem dX4_doDawn_32 : decode cX4_doDawn 32 = .ok (.iconst 0, 1) := by decide +kernel
theorem dX4_doDawn_33 : decode cX4_doDawn 33 = .ok (.istore_n 2, 1) := by decide +kernel
theorem dX4_doDawn_34 : decode cX4_doDawn 34 = .ok (.iload_n 2, 1) := by decide +kernel
theorem dX4_doDawn_35 : decode cX4_doDawn 35 = .ok (.bipush 16, 2) := by decide +kernel
theorem dX4_doDawn_37 : decode cX4_doDawn 37 = .ok (.if_icmp .ge 138, 3) := by decide +kernel
theorem dX4_doDawn_40 : decode cX4_doDawn 40 = .ok (.aload_n 0, 1) := by decide +kernel
theorem dX4_doDawn_41 : decode cX4_doDawn 41 = .ok (.iload_n 2, 1) := by decide +kernel
theorem dX4_doDawn_42 : decode cX4_doDawn 42 = .ok (.invokevirtual 37, 3) := by decide +kernel
theorem dX4_doDawn_45 : decode cX4_doDawn 45 = .ok (.ifCond .eq 124, 3) := by decide +kernel
theorem dX4_doDawn_48 : decode cX4_doDawn 48 = .ok (.aload_n 0, 1) := by decide +kernel
theorem dX4_doDawn_49 : decode cX4_doDawn 49 = .ok (.iload_n 2, 1) := by decide +kernel
theorem dX4_doDawn_50 : decode cX4_doDawn 50 = .ok (.iconst 3, 1) := by decide +kernel
theorem dX4_doDawn_51 : decode cX4_doDawn 51 = .ok (.invokevirtual 33, 3) := by decide +kernel
theorem dX4_doDawn_54 : decode cX4_doDawn 54 = .ok (.istore_n 3, 1) := by decide +kernel
theorem dX4_doDawn_55 : decode cX4_doDawn 55 = .ok (.iload_n 3, 1) := by decide +kernel
theorem dX4_doDawn_56 : decode cX4_doDawn 56 = .ok (.aload_n 0, 1) := by decide +kernel
theorem dX4_doDawn_57 : decode cX4_doDawn 57 = .ok (.iload_n 2, 1) := by decide +kernel
theorem dX4_doDawn_58 : decode cX4_doDawn 58 = .ok (.iconst 1, 1) := by decide +kernel
theorem dX4_doDawn_59 : decode cX4_doDawn 59 = .ok (.invokevirtual 33, 3) := by decide +kernel
theorem dX4_doDawn_62 : decode cX4_doDawn 62 = .ok (.if_icmp .ne 7, 3) := by decide +kernel
theorem dX4_doDawn_65 : decode cX4_doDawn 65 = .ok (.iconst 1, 1) := by decide +kernel
theorem dX4_doDawn_66 : decode cX4_doDawn 66 = .ok (.goto 4, 3) := by decide +kernel
theorem dX4_doDawn_69 : decode cX4_doDawn 69 = .ok (.iconst 0, 1) := by decide +kernel
theorem dX4_doDawn_70 : decode cX4_doDawn 70 = .ok (.istore 4, 2) := by decide +kernel
theorem dX4_doDawn_72 : decode cX4_doDawn 72 = .ok (.aload_n 0, 1) := by decide +kernel
theorem dX4_doDawn_73 : decode cX4_doDawn 73 = .ok (.getfield 7, 3) := by decide +kernel
theorem dX4_doDawn_76 : decode cX4_doDawn 76 = .ok (.sipush 174, 3) := by decide +kernel
theorem dX4_doDawn_79 : decode cX4_doDawn 79 = .ok (.iload_n 3, 1) := by decide +kernel
theorem dX4_doDawn_80 : decode cX4_doDawn 80 = .ok (.ifCond .ge 7, 3) := by decide +kernel
theorem dX4_doDawn_83 : decode cX4_doDawn 83 = .ok (.iconst 3, 1) := by decide +kernel
theorem dX4_doDawn_84 : decode cX4_doDawn 84 = .ok (.goto 23, 3) := by decide +kernel
theorem dX4_doDawn_87 : decode cX4_doDawn 87 = .ok (.iload_n 3, 1) := by decide +kernel
theorem dX4_doDawn_88 : decode cX4_doDawn 88 = .ok (.bipush 24, 2) := by decide +kernel
theorem dX4_doDawn_90 : decode cX4_doDawn 90 = .ok (.if_icmp .ne 7, 3) := by decide +kernel
theorem dX4_doDawn_93 : decode cX4_doDawn 93 = .ok (.iconst 2, 1) := by decide +kernel
theorem dX4_doDawn_94 : decode cX4_doDawn 94 = .ok (.goto 13, 3) := by decide +kernel
theorem dX4_doDawn_97 : decode cX4_doDawn 97 = .ok (.iload 4, 2) := by decide +kernel
theorem dX4_doDawn_99 : decode cX4_doDawn 99 = .ok (.ifCond .eq 7, 3) := by decide +kernel
theorem dX4_doDawn_102 : decode cX4_doDawn 102 = .ok (.iconst 0, 1) := by decide +kernel
theorem dX4_doDawn_103 : decode cX4_doDawn 103 = .ok (.goto 4, 3) := by decide +kernel
theorem dX4_doDawn_106 : decode cX4_doDawn 106 = .ok (.iconst 1, 1) := by decide +kernel
theorem dX4_doDawn_107 : decode cX4_doDawn 107 = .ok (.iadd, 1) := by decide +kernel
theorem dX4_doDawn_108 : decode cX4_doDawn 108 = .ok (.dup2, 1) := by decide +kernel
theorem dX4_doDawn_109 : decode cX4_doDawn 109 = .ok (.iaload, 1) := by decide +kernel
theorem dX4_doDawn_110 : decode cX4_doDawn 110 = .ok (.iconst 1, 1) := by decide +kernel
theorem dX4_doDawn_111 : decode cX4_doDawn 111 = .ok (.iadd, 1) := by decide +kernel
theorem dX4_doDawn_112 : decode cX4_doDawn 112 = .ok (.iastore, 1) := by decide +kernel
theorem dX4_doDawn_113 : decode cX4_doDawn 113 = .ok (.aload_n 0, 1) := by decide +kernel
theorem dX4_doDawn_114 : decode cX4_doDawn 114 = .ok (.iload_n 2, 1) := by decide +kernel
theorem dX4_doDawn_115 : decode cX4_doDawn 115 = .ok (.bipush 7, 2) := by decide +kernel
theorem dX4_doDawn_117 : decode cX4_doDawn 117 = .ok (.aload_n 0, 1) := by decide +kernel
theorem dX4_doDawn_118 : decode cX4_doDawn 118 = .ok (.iload_n 2, 1) := by decide +kernel
theorem dX4_doDawn_119 : decode cX4_doDawn 119 = .ok (.bipush 7, 2) := by decide +kernel
theorem dX4_doDawn_121 : decode cX4_doDawn 121 = .ok (.invokevirtual 33, 3) := by decide +kernel
theorem dX4_doDawn_124 : decode cX4_doDawn 124 = .ok (.iload_n 3, 1) := by decide +kernel
theorem dX4_doDawn_125 : decode cX4_doDawn 125 = .ok (.ifCond .ge 7, 3) := by decide +kernel
theorem dX4_doDawn_128 : decode cX4_doDawn 128 = .ok (.iconst 1, 1) := by decide +kernel
theorem dX4_doDawn_129 : decode cX4_doDawn 129 = .ok (.goto 4, 3) := by decide +kernel
theorem dX4_doDawn_132 : decode cX4_doDawn 132 = .ok (.iconst 0, 1) := by decide +kernel
theorem dX4_doDawn_133 : decode cX4_doDawn 133 = .ok (.iadd, 1) := by decide +kernel
theorem dX4_doDawn_134 : decode cX4_doDawn 134 = .ok (.invokevirtual 64, 3) := by decide +kernel
theorem dX4_doDawn_137 : decode cX4_doDawn 137 = .ok (.aload_n 0, 1) := by decide +kernel
theorem dX4_doDawn_138 : decode cX4_doDawn 138 = .ok (.iload_n 2, 1) := by decide +kernel
theorem dX4_doDawn_139 : decode cX4_doDawn 139 = .ok (.bipush 8, 2) := by decide +kernel
theorem dX4_doDawn_141 : decode cX4_doDawn 141 = .ok (.aload_n 0, 1) := by decide +kernel
theorem dX4_doDawn_142 : decode cX4_doDawn 142 = .ok (.iload_n 2, 1) := by decide +kernel
theorem dX4_doDawn_143 : decode cX4_doDawn 143 = .ok (.bipush 8, 2) := by decide +kernel
theorem dX4_doDawn_145 : decode cX4_doDawn 145 = .ok (.invokevirtual 33, 3) := by decide +kernel
theorem dX4_doDawn_148 : decode cX4_doDawn 148 = .ok (.iload 4, 2) := by decide +kernel
theorem dX4_doDawn_150 : decode cX4_doDawn 150 = .ok (.ifCond .eq 7, 3) := by decide +kernel
theorem dX4_doDawn_153 : decode cX4_doDawn 153 = .ok (.iconst 1, 1) := by decide +kernel
theorem dX4_doDawn_154 : decode cX4_doDawn 154 = .ok (.goto 4, 3) := by decide +kernel
theorem dX4_doDawn_157 : decode cX4_doDawn 157 = .ok (.iconst 0, 1) := by decide +kernel
theorem dX4_doDawn_158 : decode cX4_doDawn 158 = .ok (.iadd, 1) := by decide +kernel
theorem dX4_doDawn_159 : decode cX4_doDawn 159 = .ok (.invokevirtual 64, 3) := by decide +kernel
theorem dX4_doDawn_162 : decode cX4_doDawn 162 = .ok (.aload_n 0, 1) := by decide +kernel
theorem dX4_doDawn_163 : decode cX4_doDawn 163 = .ok (.iload_n 2, 1) := by decide +kernel
theorem dX4_doDawn_164 : decode cX4_doDawn 164 = .ok (.iconst 3, 1) := by decide +kernel
theorem dX4_doDawn_165 : decode cX4_doDawn 165 = .ok (.iconst (-1), 1) := by decide +kernel
theorem dX4_doDawn_166 : decode cX4_doDawn 166 = .ok (.invokevirtual 64, 3) := by decide +kernel
theorem dX4_doDawn_169 : decode cX4_doDawn 169 = .ok (.iinc 2 1, 3) := by decide +kernel
theorem dX4_doDawn_172 : decode cX4_doDawn 172 = .ok (.goto (-138), 3) := by decide +kernel
theorem dX4_doDawn_175 : decode cX4_doDawn 175 = .ok (.aload_n 0, 1) := by decide +kernel
theorem dX4_doDawn_176 : decode cX4_doDawn 176 = .ok (.getfield 7, 3) := by decide +kernel
theorem dX4_doDawn_179 : decode cX4_doDawn 179 = .ok (.sipush 169, 3) := by decide +kernel
theorem dX4_doDawn_182 : decode cX4_doDawn 182 = .ok (.dup2, 1) := by decide +kernel
theorem dX4_doDawn_183 : decode cX4_doDawn 183 = .ok (.iaload, 1) := by decide +kernel
theorem dX4_doDawn_184 : decode cX4_doDawn 184 = .ok (.iconst 1, 1) := by decide +kernel
theorem dX4_doDawn_185 : decode cX4_doDawn 185 = .ok (.iadd, 1) := by decide +kernel
theorem dX4_doDawn_186 : decode cX4_doDawn 186 = .ok (.iastore, 1) := by decide +kernel
theorem dX4_doDawn_187 : decode cX4_doDawn 187 = .ok (.aload_n 0, 1) := by decide +kernel
theorem dX4_doDawn_188 : decode cX4_doDawn 188 = .ok (.getfield 7, 3) := by decide +kernel
theorem dX4_doDawn_191 : decode cX4_doDawn 191 = .ok (.sipush 168, 3) := by decide +kernel
theorem dX4_doDawn_194 : decode cX4_doDawn 194 = .ok (.iconst 0, 1) := by decide +kernel
theorem dX4_doDawn_195 : decode cX4_doDawn 195 = .ok (.iastore, 1) := by decide +kernel
theorem dX4_doDawn_196 : decode cX4_doDawn 196 = .ok (.iload_n 1, 1) := by decide +kernel
theorem dX4_doDawn_197 : decode cX4_doDawn 197 = .ok (.ireturn, 1) := by decide +kernel
set_option maxRecDepth 20000 in
theorem ggX4_dawn_X4_record : GoodIn wsX4_dawn wsX4_record := goodIn_r _ [6, 7, 8, 9, 33, 34, 35, 36, 37, 38, 39, 40, 41, 42, 43, 44] (by decide +kernel) (by decide +kernel)
set_option maxRecDepth 20000 in
theorem gX4_dawn_X4_record : GoodIn wsX4_dawn (wsV RX4 51 RX4 yX4_record wsX4_record) := goodIn_app (goodIn_of _ (by decide +kernel)) ggX4_dawn_X4_record
set_option maxRecDepth 20000 in
theorem ggX4_dawn_X4_doDawn : GoodIn wsX4_dawn wsX4_doDawn := goodIn_r _ [13, 9, 14, 15, 16, 5, 17, 18, 19, 20, 21, 22, 23, 24, 25, 26, 27, 28, 29, 30, 31, 32, 33, 34, 35, 36, 37, 38, 39, 40, 41, 42, 43, 44] (by decide +kernel) (by decide +kernel)
set_option maxRecDepth 20000 in
theorem gX4_dawn_X4_doDawn : GoodIn wsX4_dawn (wsV RX4 87 RX4 yX4_doDawn wsX4_doDawn) := goodIn_app (goodIn_of _ (by decide +kernel)) ggX4_dawn_X4_doDawn
theorem dX4_dawn_0 : decode cX4_dawn 0 = .ok (.aload_n 0, 1) := by decide +kernel
theorem dX4_dawn_1 : decode cX4_dawn 1 = .ok (.iconst 0, 1) := by decide +kernel
theorem dX4_dawn_2 : decode cX4_dawn 2 = .ok (.putfield 25, 3) := by decide +kernel
theorem dX4_dawn_5 : decode cX4_dawn 5 = .ok (.aload_n 0, 1) := by decide +kernel
theorem dX4_dawn_6 : decode cX4_dawn 6 = .ok (.invokevirtual 51, 3) := by decide +kernel
theorem dX4_dawn_9 : decode cX4_dawn 9 = .ok (.aload_n 0, 1) := by decide +kernel
theorem dX4_dawn_10 : decode cX4_dawn 10 = .ok (.invokevirtual 87, 3) := by decide +kernel
theorem dX4_dawn_13 : decode cX4_dawn 13 = .ok (.ireturn, 1) := by decide +kernel
set_option maxRecDepth 20000 in
theorem ggX4_whyNoDove_X4_allDoves : GoodIn wsX4_whyNoDove wsX4_allDoves := goodIn_r _ [5, 6, 7, 8, 4, 9, 10, 26, 27, 28, 29, 30, 31, 32, 33, 34, 35, 36, 37] (by decide +kernel) (by decide +kernel)
set_option maxRecDepth 20000 in
theorem gX4_whyNoDove_X4_allDoves : GoodIn wsX4_whyNoDove (wsV RX4 91 RX4 yX4_allDoves wsX4_allDoves) := goodIn_app (goodIn_of _ (by decide +kernel)) ggX4_whyNoDove_X4_allDoves
set_option maxRecDepth 20000 in
theorem ggX4_whyNoDove_X4_ownerOf : GoodIn wsX4_whyNoDove wsX4_ownerOf := goodIn_r _ [14, 15, 16, 17, 4, 18, 19, 20, 21, 6, 7, 8, 9, 10, 26, 27, 28, 29, 30, 31, 32, 33, 34, 35, 36, 37] (by decide +kernel) (by decide +kernel)
set_option maxRecDepth 20000 in
theorem gX4_whyNoDove_X4_ownerOf : GoodIn wsX4_whyNoDove (wsV RX4 94 RX4 yX4_ownerOf wsX4_ownerOf) := goodIn_app (goodIn_of _ (by decide +kernel)) ggX4_whyNoDove_X4_ownerOf
set_option maxRecDepth 20000 in
theorem ggX4_whyNoDove_X4_isOpen : GoodIn wsX4_whyNoDove wsX4_isOpen := goodIn_r _ [25, 10, 26, 27, 28, 29, 30, 31, 32, 33, 34, 35, 36, 37] (by decide +kernel) (by decide +kernel)
set_option maxRecDepth 20000 in
theorem gX4_whyNoDove_X4_isOpen : GoodIn wsX4_whyNoDove (wsV RX4 41 RX4 yX4_isOpen wsX4_isOpen) := goodIn_app (goodIn_of _ (by decide +kernel)) ggX4_whyNoDove_X4_isOpen
theorem dX4_whyNoDove_0 : decode cX4_whyNoDove 0 = .ok (.aload_n 0, 1) := by decide +kernel
theorem dX4_whyNoDove_1 : decode cX4_whyNoDove 1 = .ok (.invokevirtual 91, 3) := by decide +kernel
theorem dX4_whyNoDove_4 : decode cX4_whyNoDove 4 = .ok (.bipush 16, 2) := by decide +kernel
theorem dX4_whyNoDove_6 : decode cX4_whyNoDove 6 = .ok (.if_icmp .ne 7, 3) := by decide +kernel
theorem dX4_whyNoDove_9 : decode cX4_whyNoDove 9 = .ok (.iconst 5, 1) := by decide +kernel
theorem dX4_whyNoDove_10 : decode cX4_whyNoDove 10 = .ok (.goto 30, 3) := by decide +kernel
theorem dX4_whyNoDove_13 : decode cX4_whyNoDove 13 = .ok (.aload_n 0, 1) := by decide +kernel
theorem dX4_whyNoDove_14 : decode cX4_whyNoDove 14 = .ok (.iload_n 1, 1) := by decide +kernel
theorem dX4_whyNoDove_15 : decode cX4_whyNoDove 15 = .ok (.invokevirtual 94, 3) := by decide +kernel
theorem dX4_whyNoDove_18 : decode cX4_whyNoDove 18 = .ok (.ifCond .lt 8, 3) := by decide +kernel
theorem dX4_whyNoDove_21 : decode cX4_whyNoDove 21 = .ok (.bipush 6, 2) := by decide +kernel
theorem dX4_whyNoDove_23 : decode cX4_whyNoDove 23 = .ok (.goto 17, 3) := by decide +kernel
theorem dX4_whyNoDove_26 : decode cX4_whyNoDove 26 = .ok (.aload_n 0, 1) := by decide +kernel
theorem dX4_whyNoDove_27 : decode cX4_whyNoDove 27 = .ok (.iload_n 1, 1) := by decide +kernel
theorem dX4_whyNoDove_28 : decode cX4_whyNoDove 28 = .ok (.invokevirtual 41, 3) := by decide +kernel
theorem dX4_whyNoDove_31 : decode cX4_whyNoDove 31 = .ok (.ifCond .eq 7, 3) := by decide +kernel
theorem dX4_whyNoDove_34 : decode cX4_whyNoDove 34 = .ok (.iconst 0, 1) := by decide +kernel
theorem dX4_whyNoDove_35 : decode cX4_whyNoDove 35 = .ok (.goto 5, 3) := by decide +kernel
theorem dX4_whyNoDove_38 : decode cX4_whyNoDove 38 = .ok (.bipush 7, 2) := by decide +kernel
theorem dX4_whyNoDove_40 : decode cX4_whyNoDove 40 = .ok (.ireturn, 1) := by decide +kernel
set_option maxRecDepth 20000 in
theorem ggX4_doBuy_X4_isDove : GoodIn wsX4_doBuy wsX4_isDove := goodIn_r _ [5, 6, 7, 4, 8, 9, 10, 11, 12, 13, 18, 19, 20, 21, 22, 23, 24, 25, 26, 27, 28, 29] (by decide +kernel) (by decide +kernel)
set_option maxRecDepth 20000 in
theorem gX4_doBuy_X4_isDove : GoodIn wsX4_doBuy (wsV RX4 37 RX4 yX4_isDove wsX4_isDove) := goodIn_app (goodIn_of _ (by decide +kernel)) ggX4_doBuy_X4_isDove
set_option maxRecDepth 20000 in
theorem ggX4_doBuy_X4_put : GoodIn wsX4_doBuy wsX4_put := goodIn_r _ [17, 13, 18, 19, 20, 21, 22, 23, 24, 25, 26, 27, 28, 29] (by decide +kernel) (by decide +kernel)
set_option maxRecDepth 20000 in
theorem gX4_doBuy_X4_put : GoodIn wsX4_doBuy (wsV RX4 64 RX4 yX4_put wsX4_put) := goodIn_app (goodIn_of _ (by decide +kernel)) ggX4_doBuy_X4_put
theorem dX4_doBuy_0 : decode cX4_doBuy 0 = .ok (.iconst 0, 1) := by decide +kernel
theorem dX4_doBuy_1 : decode cX4_doBuy 1 = .ok (.istore_n 3, 1) := by decide +kernel
theorem dX4_doBuy_2 : decode cX4_doBuy 2 = .ok (.aload_n 0, 1) := by decide +kernel
theorem dX4_doBuy_3 : decode cX4_doBuy 3 = .ok (.iload_n 3, 1) := by decide +kernel
theorem dX4_doBuy_4 : decode cX4_doBuy 4 = .ok (.invokevirtual 37, 3) := by decide +kernel
theorem dX4_doBuy_7 : decode cX4_doBuy 7 = .ok (.ifCond .eq 9, 3) := by decide +kernel
theorem dX4_doBuy_10 : decode cX4_doBuy 10 = .ok (.iinc 3 1, 3) := by decide +kernel
theorem dX4_doBuy_13 : decode cX4_doBuy 13 = .ok (.goto (-11), 3) := by decide +kernel
theorem dX4_doBuy_16 : decode cX4_doBuy 16 = .ok (.iconst 0, 1) := by decide +kernel
theorem dX4_doBuy_17 : decode cX4_doBuy 17 = .ok (.istore 4, 2) := by decide +kernel
theorem dX4_doBuy_19 : decode cX4_doBuy 19 = .ok (.iload 4, 2) := by decide +kernel
theorem dX4_doBuy_21 : decode cX4_doBuy 21 = .ok (.bipush 9, 2) := by decide +kernel
theorem dX4_doBuy_23 : decode cX4_doBuy 23 = .ok (.if_icmp .ge 17, 3) := by decide +kernel
theorem dX4_doBuy_26 : decode cX4_doBuy 26 = .ok (.aload_n 0, 1) := by decide +kernel
theorem dX4_doBuy_27 : decode cX4_doBuy 27 = .ok (.iload_n 3, 1) := by decide +kernel
theorem dX4_doBuy_28 : decode cX4_doBuy 28 = .ok (.iload 4, 2) := by decide +kernel
theorem dX4_doBuy_30 : decode cX4_doBuy 30 = .ok (.iconst 0, 1) := by decide +kernel
theorem dX4_doBuy_31 : decode cX4_doBuy 31 = .ok (.invokevirtual 64, 3) := by decide +kernel
theorem dX4_doBuy_34 : decode cX4_doBuy 34 = .ok (.iinc 4 1, 3) := by decide +kernel
theorem dX4_doBuy_37 : decode cX4_doBuy 37 = .ok (.goto (-18), 3) := by decide +kernel
theorem dX4_doBuy_40 : decode cX4_doBuy 40 = .ok (.aload_n 0, 1) := by decide +kernel
theorem dX4_doBuy_41 : decode cX4_doBuy 41 = .ok (.iload_n 3, 1) := by decide +kernel
theorem dX4_doBuy_42 : decode cX4_doBuy 42 = .ok (.iconst 0, 1) := by decide +kernel
theorem dX4_doBuy_43 : decode cX4_doBuy 43 = .ok (.iconst 1, 1) := by decide +kernel
theorem dX4_doBuy_44 : decode cX4_doBuy 44 = .ok (.invokevirtual 64, 3) := by decide +kernel
theorem dX4_doBuy_47 : decode cX4_doBuy 47 = .ok (.aload_n 0, 1) := by decide +kernel
theorem dX4_doBuy_48 : decode cX4_doBuy 48 = .ok (.iload_n 3, 1) := by decide +kernel
theorem dX4_doBuy_49 : decode cX4_doBuy 49 = .ok (.iconst 1, 1) := by decide +kernel
theorem dX4_doBuy_50 : decode cX4_doBuy 50 = .ok (.iload_n 1, 1) := by decide +kernel
theorem dX4_doBuy_51 : decode cX4_doBuy 51 = .ok (.invokevirtual 64, 3) := by decide +kernel
theorem dX4_doBuy_54 : decode cX4_doBuy 54 = .ok (.aload_n 0, 1) := by decide +kernel
theorem dX4_doBuy_55 : decode cX4_doBuy 55 = .ok (.iload_n 3, 1) := by decide +kernel
theorem dX4_doBuy_56 : decode cX4_doBuy 56 = .ok (.iconst 2, 1) := by decide +kernel
theorem dX4_doBuy_57 : decode cX4_doBuy 57 = .ok (.iload_n 2, 1) := by decide +kernel
theorem dX4_doBuy_58 : decode cX4_doBuy 58 = .ok (.invokevirtual 64, 3) := by decide +kernel
theorem dX4_doBuy_61 : decode cX4_doBuy 61 = .ok (.aload_n 0, 1) := by decide +kernel
theorem dX4_doBuy_62 : decode cX4_doBuy 62 = .ok (.iload_n 3, 1) := by decide +kernel
theorem dX4_doBuy_63 : decode cX4_doBuy 63 = .ok (.iconst 3, 1) := by decide +kernel
theorem dX4_doBuy_64 : decode cX4_doBuy 64 = .ok (.iconst (-1), 1) := by decide +kernel
theorem dX4_doBuy_65 : decode cX4_doBuy 65 = .ok (.invokevirtual 64, 3) := by decide +kernel
theorem dX4_doBuy_68 : decode cX4_doBuy 68 = .ok (.aload_n 0, 1) := by decide +kernel
theorem dX4_doBuy_69 : decode cX4_doBuy 69 = .ok (.iload_n 3, 1) := by decide +kernel
theorem dX4_doBuy_70 : decode cX4_doBuy 70 = .ok (.iconst 4, 1) := by decide +kernel
theorem dX4_doBuy_71 : decode cX4_doBuy 71 = .ok (.iconst (-1), 1) := by decide +kernel
theorem dX4_doBuy_72 : decode cX4_doBuy 72 = .ok (.invokevirtual 64, 3) := by decide +kernel
theorem dX4_doBuy_75 : decode cX4_doBuy 75 = .ok (.iload_n 3, 1) := by decide +kernel
theorem dX4_doBuy_76 : decode cX4_doBuy 76 = .ok (.ireturn, 1) := by decide +kernel
set_option maxRecDepth 20000 in
theorem ggX4_buy_X4_isHole : GoodIn wsX4_buy wsX4_isHole := goodIn_r _ [5, 6, 7, 4, 8] (by decide +kernel) (by decide +kernel)
set_option maxRecDepth 20000 in
theorem gX4_buy_X4_isHole : GoodIn wsX4_buy (va_wsS RX4 58 yX4_isHole wsX4_isHole) := goodIn_app (goodIn_of _ (by decide +kernel)) ggX4_buy_X4_isHole
set_option maxRecDepth 20000 in
theorem ggX4_buy_X4_in : GoodIn wsX4_buy wsX4_in := goodIn_r _ [8] (by decide +kernel) (by decide +kernel)
set_option maxRecDepth 20000 in
theorem gX4_buy_X4_in : GoodIn wsX4_buy (va_wsS RX4 29 yX4_in wsX4_in) := goodIn_app (goodIn_of _ (by decide +kernel)) ggX4_buy_X4_in
set_option maxRecDepth 20000 in
theorem ggX4_buy_X4_whyNoDove : GoodIn wsX4_buy wsX4_whyNoDove := goodIn_r _ [12, 13, 14, 15, 4, 16, 17, 18, 19, 20, 21, 22, 23, 24, 25, 26, 27, 28, 29, 6, 7, 8, 30, 31, 32, 33, 48, 49, 50, 51, 52, 53, 54, 55, 56, 57, 58, 59] (by decide +kernel) (by decide +kernel)
set_option maxRecDepth 20000 in
theorem gX4_buy_X4_whyNoDove : GoodIn wsX4_buy (wsV RX4 97 RX4 yX4_whyNoDove wsX4_whyNoDove) := goodIn_app (goodIn_of _ (by decide +kernel)) ggX4_buy_X4_whyNoDove
set_option maxRecDepth 20000 in
theorem ggX4_buy_X4_record : GoodIn wsX4_buy wsX4_record := goodIn_r _ [37, 38, 39, 21, 48, 49, 50, 51, 52, 53, 54, 55, 56, 57, 58, 59] (by decide +kernel) (by decide +kernel)
set_option maxRecDepth 20000 in
theorem gX4_buy_X4_record : GoodIn wsX4_buy (wsV RX4 51 RX4 yX4_record wsX4_record) := goodIn_app (goodIn_of _ (by decide +kernel)) ggX4_buy_X4_record
set_option maxRecDepth 20000 in
theorem ggX4_buy_X4_doBuy : GoodIn wsX4_buy wsX4_doBuy := goodIn_r _ [43, 26, 27, 28, 4, 29, 6, 7, 8, 17, 18, 19, 20, 21, 44, 45, 46, 47, 48, 49, 50, 51, 52, 53, 54, 55, 56, 57, 58, 59] (by decide +kernel) (by decide +kernel)
set_option maxRecDepth 20000 in
theorem gX4_buy_X4_doBuy : GoodIn wsX4_buy (wsV RX4 100 RX4 yX4_doBuy wsX4_doBuy) := goodIn_app (goodIn_of _ (by decide +kernel)) ggX4_buy_X4_doBuy
theorem dX4_buy_0 : decode cX4_buy 0 = .ok (.aload_n 0, 1) := by decide +kernel
theorem dX4_buy_1 : decode cX4_buy 1 = .ok (.iload_n 1, 1) := by decide +kernel
theorem dX4_buy_2 : decode cX4_buy 2 = .ok (.invokestatic 58, 3) := by decide +kernel
theorem dX4_buy_5 : decode cX4_buy 5 = .ok (.ifCond .ne 7, 3) := by decide +kernel
theorem dX4_buy_8 : decode cX4_buy 8 = .ok (.iconst 1, 1) := by decide +kernel
theorem dX4_buy_9 : decode cX4_buy 9 = .ok (.goto 30, 3) := by decide +kernel
theorem dX4_buy_12 : decode cX4_buy 12 = .ok (.iload_n 2, 1) := by decide +kernel
theorem dX4_buy_13 : decode cX4_buy 13 = .ok (.iconst 1, 1) := by decide +kernel
theorem dX4_buy_14 : decode cX4_buy 14 = .ok (.bipush 9, 2) := by decide +kernel
theorem dX4_buy_16 : decode cX4_buy 16 = .ok (.invokestatic 29, 3) := by decide +kernel
theorem dX4_buy_19 : decode cX4_buy 19 = .ok (.ifCond .ne 7, 3) := by decide +kernel
theorem dX4_buy_22 : decode cX4_buy 22 = .ok (.iconst 2, 1) := by decide +kernel
theorem dX4_buy_23 : decode cX4_buy 23 = .ok (.goto 16, 3) := by decide +kernel
theorem dX4_buy_26 : decode cX4_buy 26 = .ok (.aload_n 0, 1) := by decide +kernel
theorem dX4_buy_27 : decode cX4_buy 27 = .ok (.iload_n 1, 1) := by decide +kernel
theorem dX4_buy_28 : decode cX4_buy 28 = .ok (.invokevirtual 97, 3) := by decide +kernel
theorem dX4_buy_31 : decode cX4_buy 31 = .ok (.ifCond .le 7, 3) := by decide +kernel
theorem dX4_buy_34 : decode cX4_buy 34 = .ok (.iconst 3, 1) := by decide +kernel
theorem dX4_buy_35 : decode cX4_buy 35 = .ok (.goto 4, 3) := by decide +kernel
theorem dX4_buy_38 : decode cX4_buy 38 = .ok (.iconst 0, 1) := by decide +kernel
theorem dX4_buy_39 : decode cX4_buy 39 = .ok (.putfield 25, 3) := by decide +kernel
theorem dX4_buy_42 : decode cX4_buy 42 = .ok (.aload_n 0, 1) := by decide +kernel
theorem dX4_buy_43 : decode cX4_buy 43 = .ok (.getfield 25, 3) := by decide +kernel
theorem dX4_buy_46 : decode cX4_buy 46 = .ok (.ifCond .le 5, 3) := by decide +kernel
theorem dX4_buy_49 : decode cX4_buy 49 = .ok (.iconst 0, 1) := by decide +kernel
theorem dX4_buy_50 : decode cX4_buy 50 = .ok (.ireturn, 1) := by decide +kernel
theorem dX4_buy_51 : decode cX4_buy 51 = .ok (.aload_n 0, 1) := by decide +kernel
theorem dX4_buy_52 : decode cX4_buy 52 = .ok (.invokevirtual 51, 3) := by decide +kernel
theorem dX4_buy_55 : decode cX4_buy 55 = .ok (.aload_n 0, 1) := by decide +kernel
theorem dX4_buy_56 : decode cX4_buy 56 = .ok (.iload_n 1, 1) := by decide +kernel
theorem dX4_buy_57 : decode cX4_buy 57 = .ok (.iload_n 2, 1) := by decide +kernel
theorem dX4_buy_58 : decode cX4_buy 58 = .ok (.invokevirtual 100, 3) := by decide +kernel
theorem dX4_buy_61 : decode cX4_buy 61 = .ok (.ireturn, 1) := by decide +kernel
set_option maxRecDepth 20000 in
theorem ggX4_sell_X4_isDove : GoodIn wsX4_sell wsX4_isDove := goodIn_r _ [6, 7, 8, 5, 9, 10, 11, 12, 13, 14, 25, 26, 27, 28, 29, 30, 31, 32, 33, 34, 35, 36] (by decide +kernel) (by decide +kernel)
set_option maxRecDepth 20000 in
theorem gX4_sell_X4_isDove : GoodIn wsX4_sell (wsV RX4 37 RX4 yX4_isDove wsX4_isDove) := goodIn_app (goodIn_of _ (by decide +kernel)) ggX4_sell_X4_isDove
set_option maxRecDepth 20000 in
theorem ggX4_sell_X4_record : GoodIn wsX4_sell wsX4_record := goodIn_r _ [18, 19, 20, 14, 25, 26, 27, 28, 29, 30, 31, 32, 33, 34, 35, 36] (by decide +kernel) (by decide +kernel)
set_option maxRecDepth 20000 in
theorem gX4_sell_X4_record : GoodIn wsX4_sell (wsV RX4 51 RX4 yX4_record wsX4_record) := goodIn_app (goodIn_of _ (by decide +kernel)) ggX4_sell_X4_record
set_option maxRecDepth 20000 in
theorem ggX4_sell_X4_of : GoodIn wsX4_sell wsX4_of := goodIn_r _ [13, 14, 25, 26, 27, 28, 29, 30, 31, 32, 33, 34, 35, 36] (by decide +kernel) (by decide +kernel)
set_option maxRecDepth 20000 in
theorem gX4_sell_X4_of : GoodIn wsX4_sell (wsV RX4 33 RX4 yX4_of wsX4_of) := goodIn_app (goodIn_of _ (by decide +kernel)) ggX4_sell_X4_of
set_option maxRecDepth 20000 in
theorem ggX4_sell_X4_put : GoodIn wsX4_sell wsX4_put := goodIn_r _ [24, 14, 25, 26, 27, 28, 29, 30, 31, 32, 33, 34, 35, 36] (by decide +kernel) (by decide +kernel)
set_option maxRecDepth 20000 in
theorem gX4_sell_X4_put : GoodIn wsX4_sell (wsV RX4 64 RX4 yX4_put wsX4_put) := goodIn_app (goodIn_of _ (by decide +kernel)) ggX4_sell_X4_put
theorem dX4_sell_0 : decode cX4_sell 0 = .ok (.aload_n 0, 1) := by decide +kernel
theorem dX4_sell_1 : decode cX4_sell 1 = .ok (.aload_n 0, 1) := by decide +kernel
theorem dX4_sell_2 : decode cX4_sell 2 = .ok (.iload_n 1, 1) := by decide +kernel
theorem dX4_sell_3 : decode cX4_sell 3 = .ok (.invokevirtual 37, 3) := by decide +kernel
theorem dX4_sell_6 : decode cX4_sell 6 = .ok (.ifCond .eq 7, 3) := by decide +kernel
theorem dX4_sell_9 : decode cX4_sell 9 = .ok (.iconst 0, 1) := by decide +kernel
theorem dX4_sell_10 : decode cX4_sell 10 = .ok (.goto 4, 3) := by decide +kernel
theorem dX4_sell_13 : decode cX4_sell 13 = .ok (.iconst 1, 1) := by decide +kernel
theorem dX4_sell_14 : decode cX4_sell 14 = .ok (.putfield 25, 3) := by decide +kernel
theorem dX4_sell_17 : decode cX4_sell 17 = .ok (.aload_n 0, 1) := by decide +kernel
theorem dX4_sell_18 : decode cX4_sell 18 = .ok (.getfield 25, 3) := by decide +kernel
theorem dX4_sell_21 : decode cX4_sell 21 = .ok (.ifCond .le 5, 3) := by decide +kernel
theorem dX4_sell_24 : decode cX4_sell 24 = .ok (.iconst 0, 1) := by decide +kernel
theorem dX4_sell_25 : decode cX4_sell 25 = .ok (.ireturn, 1) := by decide +kernel
theorem dX4_sell_26 : decode cX4_sell 26 = .ok (.aload_n 0, 1) := by decide +kernel
theorem dX4_sell_27 : decode cX4_sell 27 = .ok (.invokevirtual 51, 3) := by decide +kernel
theorem dX4_sell_30 : decode cX4_sell 30 = .ok (.aload_n 0, 1) := by decide +kernel
theorem dX4_sell_31 : decode cX4_sell 31 = .ok (.iload_n 1, 1) := by decide +kernel
theorem dX4_sell_32 : decode cX4_sell 32 = .ok (.iconst 4, 1) := by decide +kernel
theorem dX4_sell_33 : decode cX4_sell 33 = .ok (.invokevirtual 33, 3) := by decide +kernel
theorem dX4_sell_36 : decode cX4_sell 36 = .ok (.istore_n 2, 1) := by decide +kernel
theorem dX4_sell_37 : decode cX4_sell 37 = .ok (.iload_n 2, 1) := by decide +kernel
theorem dX4_sell_38 : decode cX4_sell 38 = .ok (.ifCond .lt 10, 3) := by decide +kernel
theorem dX4_sell_41 : decode cX4_sell 41 = .ok (.aload_n 0, 1) := by decide +kernel
theorem dX4_sell_42 : decode cX4_sell 42 = .ok (.iload_n 2, 1) := by decide +kernel
theorem dX4_sell_43 : decode cX4_sell 43 = .ok (.iconst 4, 1) := by decide +kernel
theorem dX4_sell_44 : decode cX4_sell 44 = .ok (.iconst (-1), 1) := by decide +kernel
theorem dX4_sell_45 : decode cX4_sell 45 = .ok (.invokevirtual 64, 3) := by decide +kernel
theorem dX4_sell_48 : decode cX4_sell 48 = .ok (.aload_n 0, 1) := by decide +kernel
theorem dX4_sell_49 : decode cX4_sell 49 = .ok (.iload_n 1, 1) := by decide +kernel
theorem dX4_sell_50 : decode cX4_sell 50 = .ok (.iconst 0, 1) := by decide +kernel
theorem dX4_sell_51 : decode cX4_sell 51 = .ok (.iconst 0, 1) := by decide +kernel
theorem dX4_sell_52 : decode cX4_sell 52 = .ok (.invokevirtual 64, 3) := by decide +kernel
theorem dX4_sell_55 : decode cX4_sell 55 = .ok (.aload_n 0, 1) := by decide +kernel
theorem dX4_sell_56 : decode cX4_sell 56 = .ok (.iload_n 1, 1) := by decide +kernel
theorem dX4_sell_57 : decode cX4_sell 57 = .ok (.iconst 3, 1) := by decide +kernel
theorem dX4_sell_58 : decode cX4_sell 58 = .ok (.invokevirtual 33, 3) := by decide +kernel
theorem dX4_sell_61 : decode cX4_sell 61 = .ok (.ireturn, 1) := by decide +kernel
set_option maxRecDepth 20000 in
theorem ggX4_whyNoMates_X4_of : GoodIn wsX4_whyNoMates wsX4_of := goodIn_r _ [5, 6, 7, 8, 9, 10, 11, 12, 13, 14, 15, 16, 17, 18] (by decide +kernel) (by decide +kernel)
set_option maxRecDepth 20000 in
theorem gX4_whyNoMates_X4_of : GoodIn wsX4_whyNoMates (wsV RX4 33 RX4 yX4_of wsX4_of) := goodIn_app (goodIn_of _ (by decide +kernel)) ggX4_whyNoMates_X4_of
theorem dX4_whyNoMates_0 : decode cX4_whyNoMates 0 = .ok (.iload_n 1, 1) := by decide +kernel
theorem dX4_whyNoMates_1 : decode cX4_whyNoMates 1 = .ok (.iload_n 2, 1) := by decide +kernel
theorem dX4_whyNoMates_2 : decode cX4_whyNoMates 2 = .ok (.if_icmp .ne 8, 3) := by decide +kernel
theorem dX4_whyNoMates_5 : decode cX4_whyNoMates 5 = .ok (.bipush 8, 2) := by decide +kernel
theorem dX4_whyNoMates_7 : decode cX4_whyNoMates 7 = .ok (.goto 27, 3) := by decide +kernel
theorem dX4_whyNoMates_10 : decode cX4_whyNoMates 10 = .ok (.aload_n 0, 1) := by decide +kernel
theorem dX4_whyNoMates_11 : decode cX4_whyNoMates 11 = .ok (.iload_n 1, 1) := by decide +kernel
theorem dX4_whyNoMates_12 : decode cX4_whyNoMates 12 = .ok (.iconst 4, 1) := by decide +kernel
theorem dX4_whyNoMates_13 : decode cX4_whyNoMates 13 = .ok (.invokevirtual 33, 3) := by decide +kernel
theorem dX4_whyNoMates_16 : decode cX4_whyNoMates 16 = .ok (.ifCond .ge 12, 3) := by decide +kernel
theorem dX4_whyNoMates_19 : decode cX4_whyNoMates 19 = .ok (.aload_n 0, 1) := by decide +kernel
theorem dX4_whyNoMates_20 : decode cX4_whyNoMates 20 = .ok (.iload_n 2, 1) := by decide +kernel
theorem dX4_whyNoMates_21 : decode cX4_whyNoMates 21 = .ok (.iconst 4, 1) := by decide +kernel
theorem dX4_whyNoMates_22 : decode cX4_whyNoMates 22 = .ok (.invokevirtual 33, 3) := by decide +kernel
theorem dX4_whyNoMates_25 : decode cX4_whyNoMates 25 = .ok (.ifCond .lt 8, 3) := by decide +kernel
theorem dX4_whyNoMates_28 : decode cX4_whyNoMates 28 = .ok (.bipush 9, 2) := by decide +kernel
theorem dX4_whyNoMates_30 : decode cX4_whyNoMates 30 = .ok (.goto 4, 3) := by decide +kernel
theorem dX4_whyNoMates_33 : decode cX4_whyNoMates 33 = .ok (.iconst 0, 1) := by decide +kernel
theorem dX4_whyNoMates_34 : decode cX4_whyNoMates 34 = .ok (.ireturn, 1) := by decide +kernel
set_option maxRecDepth 20000 in
theorem ggX4_doMate_X4_put : GoodIn wsX4_doMate wsX4_put := goodIn_r _ [5, 6, 22, 23, 24, 25, 26, 27, 28, 29, 30, 31, 32, 33] (by decide +kernel) (by decide +kernel)
set_option maxRecDepth 20000 in
theorem gX4_doMate_X4_put : GoodIn wsX4_doMate (wsV RX4 64 RX4 yX4_put wsX4_put) := goodIn_app (goodIn_of _ (by decide +kernel)) ggX4_doMate_X4_put
set_option maxRecDepth 20000 in
theorem ggX4_doMate_X4_pairs : GoodIn wsX4_doMate wsX4_pairs := goodIn_r _ [10, 11, 12, 13, 4, 14, 15, 16, 17, 18, 19, 20, 21, 6, 22, 23, 24, 25, 26, 27, 28, 29, 30, 31, 32, 33] (by decide +kernel) (by decide +kernel)
set_option maxRecDepth 20000 in
theorem gX4_doMate_X4_pairs : GoodIn wsX4_doMate (wsV RX4 103 RX4 yX4_pairs wsX4_pairs) := goodIn_app (goodIn_of _ (by decide +kernel)) ggX4_doMate_X4_pairs
theorem dX4_doMate_0 : decode cX4_doMate 0 = .ok (.aload_n 0, 1) := by decide +kernel
theorem dX4_doMate_1 : decode cX4_doMate 1 = .ok (.iload_n 1, 1) := by decide +kernel
theorem dX4_doMate_2 : decode cX4_doMate 2 = .ok (.iconst 4, 1) := by decide +kernel
theorem dX4_doMate_3 : decode cX4_doMate 3 = .ok (.iload_n 2, 1) := by decide +kernel
theorem dX4_doMate_4 : decode cX4_doMate 4 = .ok (.invokevirtual 64, 3) := by decide +kernel
theorem dX4_doMate_7 : decode cX4_doMate 7 = .ok (.aload_n 0, 1) := by decide +kernel
theorem dX4_doMate_8 : decode cX4_doMate 8 = .ok (.iload_n 2, 1) := by decide +kernel
theorem dX4_doMate_9 : decode cX4_doMate 9 = .ok (.iconst 4, 1) := by decide +kernel
theorem dX4_doMate_10 : decode cX4_doMate 10 = .ok (.iload_n 1, 1) := by decide +kernel
theorem dX4_doMate_11 : decode cX4_doMate 11 = .ok (.invokevirtual 64, 3) := by decide +kernel
theorem dX4_doMate_14 : decode cX4_doMate 14 = .ok (.aload_n 0, 1) := by decide +kernel
theorem dX4_doMate_15 : decode cX4_doMate 15 = .ok (.invokevirtual 103, 3) := by decide +kernel
theorem dX4_doMate_18 : decode cX4_doMate 18 = .ok (.ireturn, 1) := by decide +kernel
set_option maxRecDepth 20000 in
theorem ggX4_mate_X4_isDove : GoodIn wsX4_mate wsX4_isDove := goodIn_r _ [6, 7, 8, 5, 9, 10, 11, 12, 13, 14, 37, 38, 39, 40, 41, 42, 43, 44, 45, 46, 47, 48] (by decide +kernel) (by decide +kernel)
set_option maxRecDepth 20000 in
theorem gX4_mate_X4_isDove : GoodIn wsX4_mate (wsV RX4 37 RX4 yX4_isDove wsX4_isDove) := goodIn_app (goodIn_of _ (by decide +kernel)) ggX4_mate_X4_isDove
set_option maxRecDepth 20000 in
theorem ggX4_mate_X4_whyNoMates : GoodIn wsX4_mate wsX4_whyNoMates := goodIn_r _ [18, 10, 11, 12, 5, 13, 14, 37, 38, 39, 40, 41, 42, 43, 44, 45, 46, 47, 48] (by decide +kernel) (by decide +kernel)
set_option maxRecDepth 20000 in
theorem gX4_mate_X4_whyNoMates : GoodIn wsX4_mate (wsV RX4 106 RX4 yX4_whyNoMates wsX4_whyNoMates) := goodIn_app (goodIn_of _ (by decide +kernel)) ggX4_mate_X4_whyNoMates
set_option maxRecDepth 20000 in
theorem ggX4_mate_X4_record : GoodIn wsX4_mate wsX4_record := goodIn_r _ [22, 23, 24, 14, 37, 38, 39, 40, 41, 42, 43, 44, 45, 46, 47, 48] (by decide +kernel) (by decide +kernel)
set_option maxRecDepth 20000 in
theorem gX4_mate_X4_record : GoodIn wsX4_mate (wsV RX4 51 RX4 yX4_record wsX4_record) := goodIn_app (goodIn_of _ (by decide +kernel)) ggX4_mate_X4_record
set_option maxRecDepth 20000 in
theorem ggX4_mate_X4_doMate : GoodIn wsX4_mate wsX4_doMate := goodIn_r _ [28, 29, 30, 31, 5, 32, 14, 33, 34, 35, 36, 2, 3, 4, 6, 7, 8, 9, 10, 11, 12, 13, 37, 38, 39, 40, 41, 42, 43, 44, 45, 46, 47, 48] (by decide +kernel) (by decide +kernel)
set_option maxRecDepth 20000 in
theorem gX4_mate_X4_doMate : GoodIn wsX4_mate (wsV RX4 109 RX4 yX4_doMate wsX4_doMate) := goodIn_app (goodIn_of _ (by decide +kernel)) ggX4_mate_X4_doMate
theorem dX4_mate_0 : decode cX4_mate 0 = .ok (.aload_n 0, 1) := by decide +kernel
theorem dX4_mate_1 : decode cX4_mate 1 = .ok (.aload_n 0, 1) := by decide +kernel
theorem dX4_mate_2 : decode cX4_mate 2 = .ok (.iload_n 1, 1) := by decide +kernel
theorem dX4_mate_3 : decode cX4_mate 3 = .ok (.invokevirtual 37, 3) := by decide +kernel
theorem dX4_mate_6 : decode cX4_mate 6 = .ok (.ifCond .eq 11, 3) := by decide +kernel
theorem dX4_mate_9 : decode cX4_mate 9 = .ok (.aload_n 0, 1) := by decide +kernel
theorem dX4_mate_10 : decode cX4_mate 10 = .ok (.iload_n 2, 1) := by decide +kernel
theorem dX4_mate_11 : decode cX4_mate 11 = .ok (.invokevirtual 37, 3) := by decide +kernel
theorem dX4_mate_14 : decode cX4_mate 14 = .ok (.ifCond .ne 7, 3) := by decide +kernel
theorem dX4_mate_17 : decode cX4_mate 17 = .ok (.iconst 1, 1) := by decide +kernel
theorem dX4_mate_18 : decode cX4_mate 18 = .ok (.goto 17, 3) := by decide +kernel
theorem dX4_mate_21 : decode cX4_mate 21 = .ok (.aload_n 0, 1) := by decide +kernel
theorem dX4_mate_22 : decode cX4_mate 22 = .ok (.iload_n 1, 1) := by decide +kernel
theorem dX4_mate_23 : decode cX4_mate 23 = .ok (.iload_n 2, 1) := by decide +kernel
theorem dX4_mate_24 : decode cX4_mate 24 = .ok (.invokevirtual 106, 3) := by decide +kernel
theorem dX4_mate_27 : decode cX4_mate 27 = .ok (.ifCond .le 7, 3) := by decide +kernel
theorem dX4_mate_30 : decode cX4_mate 30 = .ok (.iconst 2, 1) := by decide +kernel
theorem dX4_mate_31 : decode cX4_mate 31 = .ok (.goto 4, 3) := by decide +kernel
theorem dX4_mate_34 : decode cX4_mate 34 = .ok (.iconst 0, 1) := by decide +kernel
theorem dX4_mate_35 : decode cX4_mate 35 = .ok (.putfield 25, 3) := by decide +kernel
theorem dX4_mate_38 : decode cX4_mate 38 = .ok (.aload_n 0, 1) := by decide +kernel
theorem dX4_mate_39 : decode cX4_mate 39 = .ok (.getfield 25, 3) := by decide +kernel
theorem dX4_mate_42 : decode cX4_mate 42 = .ok (.ifCond .le 5, 3) := by decide +kernel
theorem dX4_mate_45 : decode cX4_mate 45 = .ok (.iconst 0, 1) := by decide +kernel
theorem dX4_mate_46 : decode cX4_mate 46 = .ok (.ireturn, 1) := by decide +kernel
theorem dX4_mate_47 : decode cX4_mate 47 = .ok (.aload_n 0, 1) := by decide +kernel
theorem dX4_mate_48 : decode cX4_mate 48 = .ok (.invokevirtual 51, 3) := by decide +kernel
theorem dX4_mate_51 : decode cX4_mate 51 = .ok (.aload_n 0, 1) := by decide +kernel
theorem dX4_mate_52 : decode cX4_mate 52 = .ok (.iload_n 1, 1) := by decide +kernel
theorem dX4_mate_53 : decode cX4_mate 53 = .ok (.iload_n 2, 1) := by decide +kernel
theorem dX4_mate_54 : decode cX4_mate 54 = .ok (.invokevirtual 109, 3) := by decide +kernel
theorem dX4_mate_57 : decode cX4_mate 57 = .ok (.ireturn, 1) := by decide +kernel
set_option maxRecDepth 20000 in
theorem ggX4_whyNoShut_X4_sitter : GoodIn wsX4_whyNoShut wsX4_sitter := goodIn_r _ [5, 6, 7, 8, 4, 9, 10, 11, 12, 13, 14, 15, 16, 17, 22, 23, 24, 25, 26, 27, 28, 29, 30, 31, 32, 33] (by decide +kernel) (by decide +kernel)
set_option maxRecDepth 20000 in
theorem gX4_whyNoShut_X4_sitter : GoodIn wsX4_whyNoShut (wsV RX4 54 RX4 yX4_sitter wsX4_sitter) := goodIn_app (goodIn_of _ (by decide +kernel)) ggX4_whyNoShut_X4_sitter
set_option maxRecDepth 20000 in
theorem ggX4_whyNoShut_X4_isOpen : GoodIn wsX4_whyNoShut wsX4_isOpen := goodIn_r _ [21, 17, 22, 23, 24, 25, 26, 27, 28, 29, 30, 31, 32, 33] (by decide +kernel) (by decide +kernel)
set_option maxRecDepth 20000 in
theorem gX4_whyNoShut_X4_isOpen : GoodIn wsX4_whyNoShut (wsV RX4 41 RX4 yX4_isOpen wsX4_isOpen) := goodIn_app (goodIn_of _ (by decide +kernel)) ggX4_whyNoShut_X4_isOpen
theorem dX4_whyNoShut_0 : decode cX4_whyNoShut 0 = .ok (.aload_n 0, 1) := by decide +kernel
theorem dX4_whyNoShut_1 : decode cX4_whyNoShut 1 = .ok (.iload_n 1, 1) := by decide +kernel
theorem dX4_whyNoShut_2 : decode cX4_whyNoShut 2 = .ok (.invokevirtual 54, 3) := by decide +kernel
theorem dX4_whyNoShut_5 : decode cX4_whyNoShut 5 = .ok (.ifCond .lt 7, 3) := by decide +kernel
theorem dX4_whyNoShut_8 : decode cX4_whyNoShut 8 = .ok (.iconst 3, 1) := by decide +kernel
theorem dX4_whyNoShut_9 : decode cX4_whyNoShut 9 = .ok (.goto 16, 3) := by decide +kernel
theorem dX4_whyNoShut_12 : decode cX4_whyNoShut 12 = .ok (.aload_n 0, 1) := by decide +kernel
theorem dX4_whyNoShut_13 : decode cX4_whyNoShut 13 = .ok (.iload_n 1, 1) := by decide +kernel
theorem dX4_whyNoShut_14 : decode cX4_whyNoShut 14 = .ok (.invokevirtual 41, 3) := by decide +kernel
theorem dX4_whyNoShut_17 : decode cX4_whyNoShut 17 = .ok (.ifCond .eq 7, 3) := by decide +kernel
theorem dX4_whyNoShut_20 : decode cX4_whyNoShut 20 = .ok (.iconst 0, 1) := by decide +kernel
theorem dX4_whyNoShut_21 : decode cX4_whyNoShut 21 = .ok (.goto 4, 3) := by decide +kernel
theorem dX4_whyNoShut_24 : decode cX4_whyNoShut 24 = .ok (.iconst 4, 1) := by decide +kernel
theorem dX4_whyNoShut_25 : decode cX4_whyNoShut 25 = .ok (.ireturn, 1) := by decide +kernel
set_option maxRecDepth 20000 in
theorem ggX4_shut_X4_isHole : GoodIn wsX4_shut wsX4_isHole := goodIn_r _ [6, 7, 8, 5, 9] (by decide +kernel) (by decide +kernel)
set_option maxRecDepth 20000 in
theorem gX4_shut_X4_isHole : GoodIn wsX4_shut (va_wsS RX4 58 yX4_isHole wsX4_isHole) := goodIn_app (goodIn_of _ (by decide +kernel)) ggX4_shut_X4_isHole
set_option maxRecDepth 20000 in
theorem ggX4_shut_X4_whyNoShut : GoodIn wsX4_shut wsX4_whyNoShut := goodIn_r _ [13, 14, 15, 16, 5, 17, 18, 19, 20, 21, 7, 8, 9, 22, 23, 24, 25, 2, 26, 27, 28, 29, 40, 41, 42, 43, 44, 45, 46, 47, 48, 49, 50, 51] (by decide +kernel) (by decide +kernel)
set_option maxRecDepth 20000 in
theorem gX4_shut_X4_whyNoShut : GoodIn wsX4_shut (wsV RX4 112 RX4 yX4_whyNoShut wsX4_whyNoShut) := goodIn_app (goodIn_of _ (by decide +kernel)) ggX4_shut_X4_whyNoShut
set_option maxRecDepth 20000 in
theorem ggX4_shut_X4_record : GoodIn wsX4_shut wsX4_record := goodIn_r _ [33, 34, 35, 2, 40, 41, 42, 43, 44, 45, 46, 47, 48, 49, 50, 51] (by decide +kernel) (by decide +kernel)
set_option maxRecDepth 20000 in
theorem gX4_shut_X4_record : GoodIn wsX4_shut (wsV RX4 51 RX4 yX4_record wsX4_record) := goodIn_app (goodIn_of _ (by decide +kernel)) ggX4_shut_X4_record
set_option maxRecDepth 20000 in
theorem ggX4_shut_X4_openHoles : GoodIn wsX4_shut wsX4_openHoles := goodIn_r _ [39, 26, 27, 28, 5, 29, 2, 40, 41, 42, 43, 44, 45, 46, 47, 48, 49, 50, 51] (by decide +kernel) (by decide +kernel)
set_option maxRecDepth 20000 in
theorem gX4_shut_X4_openHoles : GoodIn wsX4_shut (wsV RX4 115 RX4 yX4_openHoles wsX4_openHoles) := goodIn_app (goodIn_of _ (by decide +kernel)) ggX4_shut_X4_openHoles
theorem dX4_shut_0 : decode cX4_shut 0 = .ok (.aload_n 0, 1) := by decide +kernel
theorem dX4_shut_1 : decode cX4_shut 1 = .ok (.iload_n 1, 1) := by decide +kernel
theorem dX4_shut_2 : decode cX4_shut 2 = .ok (.invokestatic 58, 3) := by decide +kernel
theorem dX4_shut_5 : decode cX4_shut 5 = .ok (.ifCond .ne 7, 3) := by decide +kernel
theorem dX4_shut_8 : decode cX4_shut 8 = .ok (.iconst 1, 1) := by decide +kernel
theorem dX4_shut_9 : decode cX4_shut 9 = .ok (.goto 16, 3) := by decide +kernel
theorem dX4_shut_12 : decode cX4_shut 12 = .ok (.aload_n 0, 1) := by decide +kernel
theorem dX4_shut_13 : decode cX4_shut 13 = .ok (.iload_n 1, 1) := by decide +kernel
theorem dX4_shut_14 : decode cX4_shut 14 = .ok (.invokevirtual 112, 3) := by decide +kernel
theorem dX4_shut_17 : decode cX4_shut 17 = .ok (.ifCond .le 7, 3) := by decide +kernel
theorem dX4_shut_20 : decode cX4_shut 20 = .ok (.iconst 2, 1) := by decide +kernel
theorem dX4_shut_21 : decode cX4_shut 21 = .ok (.goto 4, 3) := by decide +kernel
theorem dX4_shut_24 : decode cX4_shut 24 = .ok (.iconst 0, 1) := by decide +kernel
theorem dX4_shut_25 : decode cX4_shut 25 = .ok (.putfield 25, 3) := by decide +kernel
theorem dX4_shut_28 : decode cX4_shut 28 = .ok (.aload_n 0, 1) := by decide +kernel
theorem dX4_shut_29 : decode cX4_shut 29 = .ok (.getfield 25, 3) := by decide +kernel
theorem dX4_shut_32 : decode cX4_shut 32 = .ok (.ifCond .le 5, 3) := by decide +kernel
theorem dX4_shut_35 : decode cX4_shut 35 = .ok (.iconst 0, 1) := by decide +kernel
theorem dX4_shut_36 : decode cX4_shut 36 = .ok (.ireturn, 1) := by decide +kernel
theorem dX4_shut_37 : decode cX4_shut 37 = .ok (.aload_n 0, 1) := by decide +kernel
theorem dX4_shut_38 : decode cX4_shut 38 = .ok (.invokevirtual 51, 3) := by decide +kernel
theorem dX4_shut_41 : decode cX4_shut 41 = .ok (.aload_n 0, 1) := by decide +kernel
theorem dX4_shut_42 : decode cX4_shut 42 = .ok (.getfield 7, 3) := by decide +kernel
theorem dX4_shut_45 : decode cX4_shut 45 = .ok (.sipush 144, 3) := by decide +kernel
theorem dX4_shut_48 : decode cX4_shut 48 = .ok (.iload_n 1, 1) := by decide +kernel
theorem dX4_shut_49 : decode cX4_shut 49 = .ok (.iadd, 1) := by decide +kernel
theorem dX4_shut_50 : decode cX4_shut 50 = .ok (.iconst 1, 1) := by decide +kernel
theorem dX4_shut_51 : decode cX4_shut 51 = .ok (.iastore, 1) := by decide +kernel
theorem dX4_shut_52 : decode cX4_shut 52 = .ok (.aload_n 0, 1) := by decide +kernel
theorem dX4_shut_53 : decode cX4_shut 53 = .ok (.invokevirtual 115, 3) := by decide +kernel
theorem dX4_shut_56 : decode cX4_shut 56 = .ok (.ireturn, 1) := by decide +kernel
set_option maxRecDepth 20000 in
theorem ggX4_open_X4_isHole : GoodIn wsX4_open wsX4_isHole := goodIn_r _ [6, 7, 8, 5, 9] (by decide +kernel) (by decide +kernel)
set_option maxRecDepth 20000 in
theorem gX4_open_X4_isHole : GoodIn wsX4_open (va_wsS RX4 58 yX4_isHole wsX4_isHole) := goodIn_app (goodIn_of _ (by decide +kernel)) ggX4_open_X4_isHole
set_option maxRecDepth 20000 in
theorem ggX4_open_X4_record : GoodIn wsX4_open wsX4_record := goodIn_r _ [13, 14, 15, 2, 24, 25, 26, 27, 28, 29, 30, 31, 32, 33, 34, 35] (by decide +kernel) (by decide +kernel)
set_option maxRecDepth 20000 in
theorem gX4_open_X4_record : GoodIn wsX4_open (wsV RX4 51 RX4 yX4_record wsX4_record) := goodIn_app (goodIn_of _ (by decide +kernel)) ggX4_open_X4_record
set_option maxRecDepth 20000 in
theorem ggX4_open_X4_openHoles : GoodIn wsX4_open wsX4_openHoles := goodIn_r _ [19, 20, 21, 22, 5, 23, 2, 24, 25, 26, 27, 28, 29, 30, 31, 32, 33, 34, 35] (by decide +kernel) (by decide +kernel)
set_option maxRecDepth 20000 in
theorem gX4_open_X4_openHoles : GoodIn wsX4_open (wsV RX4 115 RX4 yX4_openHoles wsX4_openHoles) := goodIn_app (goodIn_of _ (by decide +kernel)) ggX4_open_X4_openHoles
theorem dX4_open_0 : decode cX4_open 0 = .ok (.aload_n 0, 1) := by decide +kernel
theorem dX4_open_1 : decode cX4_open 1 = .ok (.iload_n 1, 1) := by decide +kernel
theorem dX4_open_2 : decode cX4_open 2 = .ok (.invokestatic 58, 3) := by decide +kernel
theorem dX4_open_5 : decode cX4_open 5 = .ok (.ifCond .eq 7, 3) := by decide +kernel
theorem dX4_open_8 : decode cX4_open 8 = .ok (.iconst 0, 1) := by decide +kernel
theorem dX4_open_9 : decode cX4_open 9 = .ok (.goto 4, 3) := by decide +kernel
theorem dX4_open_12 : decode cX4_open 12 = .ok (.iconst 1, 1) := by decide +kernel
theorem dX4_open_13 : decode cX4_open 13 = .ok (.putfield 25, 3) := by decide +kernel
theorem dX4_open_16 : decode cX4_open 16 = .ok (.aload_n 0, 1) := by decide +kernel
theorem dX4_open_17 : decode cX4_open 17 = .ok (.getfield 25, 3) := by decide +kernel
theorem dX4_open_20 : decode cX4_open 20 = .ok (.ifCond .le 5, 3) := by decide +kernel
theorem dX4_open_23 : decode cX4_open 23 = .ok (.iconst 0, 1) := by decide +kernel
theorem dX4_open_24 : decode cX4_open 24 = .ok (.ireturn, 1) := by decide +kernel
theorem dX4_open_25 : decode cX4_open 25 = .ok (.aload_n 0, 1) := by decide +kernel
theorem dX4_open_26 : decode cX4_open 26 = .ok (.invokevirtual 51, 3) := by decide +kernel
theorem dX4_open_29 : decode cX4_open 29 = .ok (.aload_n 0, 1) := by decide +kernel
theorem dX4_open_30 : decode cX4_open 30 = .ok (.getfield 7, 3) := by decide +kernel
theorem dX4_open_33 : decode cX4_open 33 = .ok (.sipush 144, 3) := by decide +kernel
theorem dX4_open_36 : decode cX4_open 36 = .ok (.iload_n 1, 1) := by decide +kernel
theorem dX4_open_37 : decode cX4_open 37 = .ok (.iadd, 1) := by decide +kernel
theorem dX4_open_38 : decode cX4_open 38 = .ok (.iconst 0, 1) := by decide +kernel
theorem dX4_open_39 : decode cX4_open 39 = .ok (.iastore, 1) := by decide +kernel
theorem dX4_open_40 : decode cX4_open 40 = .ok (.aload_n 0, 1) := by decide +kernel
theorem dX4_open_41 : decode cX4_open 41 = .ok (.invokevirtual 115, 3) := by decide +kernel
theorem dX4_open_44 : decode cX4_open 44 = .ok (.ireturn, 1) := by decide +kernel
