
set_option maxRecDepth 20000 in
theorem ggX3_needHole_X3_isHole : GoodIn wsX3_needHole wsX3_isHole := goodIn_r _ [6] (by decide +kernel) (by decide +kernel)
set_option maxRecDepth 20000 in
theorem gX3_needHole_X3_isHole : GoodIn wsX3_needHole (va_wsS RX3 260 yX3_isHole wsX3_isHole) := goodIn_app (goodIn_of _ (by decide +kernel)) ggX3_needHole_X3_isHole
theorem dX3_needHole_0 : decode cX3_needHole 0 = .ok (.iload_n 0, 1) := by decide +kernel
theorem dX3_needHole_1 : decode cX3_needHole 1 = .ok (.invokestatic 260, 3) := by decide +kernel
theorem dX3_needHole_4 : decode cX3_needHole 4 = .ok (.ifCond .ne 14, 3) := by decide +kernel
theorem dX3_needHole_7 : decode cX3_needHole 7 = .ok (.new 105, 3) := by decide +kernel
theorem dX3_needHole_10 : decode cX3_needHole 10 = .ok (.dup, 1) := by decide +kernel
theorem dX3_needHole_11 : decode cX3_needHole 11 = .ok (.ldc_w 263, 3) := by decide +kernel
theorem dX3_needHole_14 : decode cX3_needHole 14 = .ok (.invokespecial 109, 3) := by decide +kernel
theorem dX3_needHole_17 : decode cX3_needHole 17 = .ok (.athrow, 1) := by decide +kernel
theorem dX3_needHole_18 : decode cX3_needHole 18 = .ok (.return_, 1) := by decide +kernel
theorem dX3_needTime_0 : decode cX3_needTime 0 = .ok (.iload_n 0, 1) := by decide +kernel
theorem dX3_needTime_1 : decode cX3_needTime 1 = .ok (.ifCond .lt 10, 3) := by decide +kernel
theorem dX3_needTime_4 : decode cX3_needTime 4 = .ok (.iload_n 0, 1) := by decide +kernel
theorem dX3_needTime_5 : decode cX3_needTime 5 = .ok (.sipush 1439, 3) := by decide +kernel
theorem dX3_needTime_8 : decode cX3_needTime 8 = .ok (.if_icmp .le 14, 3) := by decide +kernel
theorem dX3_needTime_11 : decode cX3_needTime 11 = .ok (.new 52, 3) := by decide +kernel
theorem dX3_needTime_14 : decode cX3_needTime 14 = .ok (.dup, 1) := by decide +kernel
theorem dX3_needTime_15 : decode cX3_needTime 15 = .ok (.ldc_w 265, 3) := by decide +kernel
theorem dX3_needTime_18 : decode cX3_needTime 18 = .ok (.invokespecial 56, 3) := by decide +kernel
theorem dX3_needTime_21 : decode cX3_needTime 21 = .ok (.athrow, 1) := by decide +kernel
theorem dX3_needTime_22 : decode cX3_needTime 22 = .ok (.return_, 1) := by decide +kernel
set_option maxRecDepth 20000 in
theorem ggX3_needDove_X0_exists : GoodIn wsX3_needDove wsX0_exists := goodIn_r _ [8, 9, 19, 20, 21, 22, 23, 24, 25, 26, 27, 28] (by decide +kernel) (by decide +kernel)
set_option maxRecDepth 20000 in
theorem gX3_needDove_X0_exists : GoodIn wsX3_needDove (wsV RX3 235 RX0 yX0_exists wsX0_exists) := goodIn_app (goodIn_of _ (by decide +kernel)) ggX3_needDove_X0_exists
theorem dX3_needDove_0 : decode cX3_needDove 0 = .ok (.aload_n 0, 1) := by decide +kernel
theorem dX3_needDove_1 : decode cX3_needDove 1 = .ok (.getfield 10, 3) := by decide +kernel
theorem dX3_needDove_4 : decode cX3_needDove 4 = .ok (.iload_n 1, 1) := by decide +kernel
theorem dX3_needDove_5 : decode cX3_needDove 5 = .ok (.invokevirtual 235, 3) := by decide +kernel
theorem dX3_needDove_8 : decode cX3_needDove 8 = .ok (.ifCond .ne 14, 3) := by decide +kernel
theorem dX3_needDove_11 : decode cX3_needDove 11 = .ok (.new 105, 3) := by decide +kernel
theorem dX3_needDove_14 : decode cX3_needDove 14 = .ok (.dup, 1) := by decide +kernel
theorem dX3_needDove_15 : decode cX3_needDove 15 = .ok (.ldc_w 267, 3) := by decide +kernel
theorem dX3_needDove_18 : decode cX3_needDove 18 = .ok (.invokespecial 109, 3) := by decide +kernel
theorem dX3_needDove_21 : decode cX3_needDove 21 = .ok (.athrow, 1) := by decide +kernel
theorem dX3_needDove_22 : decode cX3_needDove 22 = .ok (.return_, 1) := by decide +kernel
set_option maxRecDepth 20000 in
theorem ggX3_save_X0_copyFrom : GoodIn wsX3_save wsX0_copyFrom := goodIn_r _ [8, 9, 10, 11, 12, 13, 14, 15, 16, 17, 18, 19, 20, 21, 22, 23, 24, 25, 26, 27, 28, 29, 30, 31, 41, 42, 43, 44, 45, 46, 47, 48, 49, 50, 51, 52, 53] (by decide +kernel) (by decide +kernel)
set_option maxRecDepth 20000 in
theorem gX3_save_X0_copyFrom : GoodIn wsX3_save (wsV RX3 162 RX0 yX0_copyFrom wsX0_copyFrom) := goodIn_app (goodIn_of _ (by decide +kernel)) ggX3_save_X0_copyFrom
theorem dX3_save_0 : decode cX3_save 0 = .ok (.aload_n 0, 1) := by decide +kernel
theorem dX3_save_1 : decode cX3_save 1 = .ok (.getfield 30, 3) := by decide +kernel
theorem dX3_save_4 : decode cX3_save 4 = .ok (.bipush 6, 2) := by decide +kernel
theorem dX3_save_6 : decode cX3_save 6 = .ok (.if_icmp .lt 50, 3) := by decide +kernel
theorem dX3_save_9 : decode cX3_save 9 = .ok (.aload_n 0, 1) := by decide +kernel
theorem dX3_save_10 : decode cX3_save 10 = .ok (.getfield 26, 3) := by decide +kernel
theorem dX3_save_13 : decode cX3_save 13 = .ok (.iconst 0, 1) := by decide +kernel
theorem dX3_save_14 : decode cX3_save 14 = .ok (.aaload, 1) := by decide +kernel
theorem dX3_save_15 : decode cX3_save 15 = .ok (.astore_n 1, 1) := by decide +kernel
theorem dX3_save_16 : decode cX3_save 16 = .ok (.iconst 1, 1) := by decide +kernel
theorem dX3_save_17 : decode cX3_save 17 = .ok (.istore_n 2, 1) := by decide +kernel
theorem dX3_save_18 : decode cX3_save 18 = .ok (.iload_n 2, 1) := by decide +kernel
theorem dX3_save_19 : decode cX3_save 19 = .ok (.bipush 6, 2) := by decide +kernel
theorem dX3_save_21 : decode cX3_save 21 = .ok (.if_icmp .ge 23, 3) := by decide +kernel
theorem dX3_save_24 : decode cX3_save 24 = .ok (.aload_n 0, 1) := by decide +kernel
theorem dX3_save_25 : decode cX3_save 25 = .ok (.getfield 26, 3) := by decide +kernel
theorem dX3_save_28 : decode cX3_save 28 = .ok (.iload_n 2, 1) := by decide +kernel
theorem dX3_save_29 : decode cX3_save 29 = .ok (.iconst 1, 1) := by decide +kernel
theorem dX3_save_30 : decode cX3_save 30 = .ok (.isub, 1) := by decide +kernel
theorem dX3_save_31 : decode cX3_save 31 = .ok (.aload_n 0, 1) := by decide +kernel
theorem dX3_save_32 : decode cX3_save 32 = .ok (.getfield 26, 3) := by decide +kernel
theorem dX3_save_35 : decode cX3_save 35 = .ok (.iload_n 2, 1) := by decide +kernel
theorem dX3_save_36 : decode cX3_save 36 = .ok (.aaload, 1) := by decide +kernel
theorem dX3_save_37 : decode cX3_save 37 = .ok (.aastore, 1) := by decide +kernel
theorem dX3_save_38 : decode cX3_save 38 = .ok (.iinc 2 1, 3) := by decide +kernel
theorem dX3_save_41 : decode cX3_save 41 = .ok (.goto (-23), 3) := by decide +kernel
theorem dX3_save_44 : decode cX3_save 44 = .ok (.aload_n 0, 1) := by decide +kernel
theorem dX3_save_45 : decode cX3_save 45 = .ok (.getfield 26, 3) := by decide +kernel
theorem dX3_save_48 : decode cX3_save 48 = .ok (.iconst 5, 1) := by decide +kernel
theorem dX3_save_49 : decode cX3_save 49 = .ok (.aload_n 1, 1) := by decide +kernel
theorem dX3_save_50 : decode cX3_save 50 = .ok (.aastore, 1) := by decide +kernel
theorem dX3_save_51 : decode cX3_save 51 = .ok (.aload_n 0, 1) := by decide +kernel
theorem dX3_save_52 : decode cX3_save 52 = .ok (.iconst 5, 1) := by decide +kernel
theorem dX3_save_53 : decode cX3_save 53 = .ok (.putfield 30, 3) := by decide +kernel
theorem dX3_save_56 : decode cX3_save 56 = .ok (.aload_n 0, 1) := by decide +kernel
theorem dX3_save_57 : decode cX3_save 57 = .ok (.getfield 26, 3) := by decide +kernel
theorem dX3_save_60 : decode cX3_save 60 = .ok (.aload_n 0, 1) := by decide +kernel
theorem dX3_save_61 : decode cX3_save 61 = .ok (.getfield 30, 3) := by decide +kernel
theorem dX3_save_64 : decode cX3_save 64 = .ok (.aaload, 1) := by decide +kernel
theorem dX3_save_65 : decode cX3_save 65 = .ok (.aload_n 0, 1) := by decide +kernel
theorem dX3_save_66 : decode cX3_save 66 = .ok (.getfield 10, 3) := by decide +kernel
theorem dX3_save_69 : decode cX3_save 69 = .ok (.invokevirtual 162, 3) := by decide +kernel
theorem dX3_save_72 : decode cX3_save 72 = .ok (.aload_n 0, 1) := by decide +kernel
theorem dX3_save_73 : decode cX3_save 73 = .ok (.dup, 1) := by decide +kernel
theorem dX3_save_74 : decode cX3_save 74 = .ok (.getfield 30, 3) := by decide +kernel
theorem dX3_save_77 : decode cX3_save 77 = .ok (.iconst 1, 1) := by decide +kernel
theorem dX3_save_78 : decode cX3_save 78 = .ok (.iadd, 1) := by decide +kernel
theorem dX3_save_79 : decode cX3_save 79 = .ok (.putfield 30, 3) := by decide +kernel
theorem dX3_save_82 : decode cX3_save 82 = .ok (.return_, 1) := by decide +kernel
set_option maxRecDepth 20000 in
theorem ggX3_playPart_X3_playHome : GoodIn wsX3_playPart wsX3_playHome := goodIn_r _ [7, 2, 8, 9, 10, 11, 12, 13, 14, 15, 16, 17, 18, 19, 20, 21, 22, 23, 24, 25, 26, 27, 28, 29, 30, 31, 6, 32, 33, 34, 35, 36, 37, 38, 39, 40, 41, 42, 43, 44, 45, 46, 47, 48, 49, 50, 51, 52, 53, 54, 55, 56, 57, 58, 59, 60, 61, 62, 63, 64, 65, 66, 117, 118, 119, 120, 121, 122, 123, 124, 125, 130, 131, 132, 133, 134, 135, 136, 137, 138, 139, 140, 141, 142] (by decide +kernel) (by decide +kernel)
set_option maxRecDepth 20000 in
theorem gX3_playPart_X3_playHome : GoodIn wsX3_playPart (wsV RX3 278 RX3 yX3_playHome wsX3_playHome) := goodIn_app (goodIn_of _ (by decide +kernel)) ggX3_playPart_X3_playHome
set_option maxRecDepth 20000 in
theorem ggX3_playPart_X3_playBuy : GoodIn wsX3_playPart wsX3_playBuy := goodIn_r _ [70, 2, 71, 72, 73, 11, 74, 30, 75, 76, 77, 78, 37, 9, 10, 12, 13, 31, 6, 32, 26, 27, 28, 29, 79, 80, 81, 82, 117, 118, 119, 120, 121, 122, 123, 124, 125, 130, 131, 132, 133, 134, 135, 136, 137, 138, 139] (by decide +kernel) (by decide +kernel)
set_option maxRecDepth 20000 in
theorem gX3_playPart_X3_playBuy : GoodIn wsX3_playPart (wsV RX3 281 RX3 yX3_playBuy wsX3_playBuy) := goodIn_app (goodIn_of _ (by decide +kernel)) ggX3_playPart_X3_playBuy
set_option maxRecDepth 20000 in
theorem ggX3_playPart_X3_playMate : GoodIn wsX3_playPart wsX3_playMate := goodIn_r _ [86, 2, 8, 9, 10, 11, 12, 13, 87, 88, 89, 90, 91, 92, 93, 94, 117, 118, 119, 120, 121, 122, 123, 124, 125, 130, 131, 132, 133, 134, 135, 136, 137, 138, 139] (by decide +kernel) (by decide +kernel)
set_option maxRecDepth 20000 in
theorem gX3_playPart_X3_playMate : GoodIn wsX3_playPart (wsV RX3 284 RX3 yX3_playMate wsX3_playMate) := goodIn_app (goodIn_of _ (by decide +kernel)) ggX3_playPart_X3_playMate
set_option maxRecDepth 20000 in
theorem ggX3_playPart_X3_playShut : GoodIn wsX3_playPart wsX3_playShut := goodIn_r _ [98, 2, 99, 100, 101, 11, 102, 30, 31, 6, 32, 26, 27, 28, 29, 103, 104, 105, 106, 117, 118, 119, 120, 121, 122, 123, 124, 125, 130, 131, 132, 133, 134, 135, 136, 137, 138, 139] (by decide +kernel) (by decide +kernel)
set_option maxRecDepth 20000 in
theorem gX3_playPart_X3_playShut : GoodIn wsX3_playPart (wsV RX3 287 RX3 yX3_playShut wsX3_playShut) := goodIn_app (goodIn_of _ (by decide +kernel)) ggX3_playPart_X3_playShut
set_option maxRecDepth 20000 in
theorem ggX3_playPart_X0_setOpen : GoodIn wsX3_playPart wsX0_setOpen := goodIn_r _ [106, 30, 31, 6, 32, 130, 131, 132, 133, 134, 135, 136, 137, 138, 139] (by decide +kernel) (by decide +kernel)
set_option maxRecDepth 20000 in
theorem gX3_playPart_X0_setOpen : GoodIn wsX3_playPart (wsV RX3 99 RX0 yX0_setOpen wsX0_setOpen) := goodIn_app (goodIn_of _ (by decide +kernel)) ggX3_playPart_X0_setOpen
set_option maxRecDepth 20000 in
theorem ggX3_playPart_X0_endNight : GoodIn wsX3_playPart wsX0_endNight := goodIn_r _ [110, 111, 13, 30, 112, 18, 37, 9, 10, 11, 12, 113, 114, 115, 116, 130, 131, 132, 133, 134, 135, 136, 137, 138, 139] (by decide +kernel) (by decide +kernel)
set_option maxRecDepth 20000 in
theorem gX3_playPart_X0_endNight : GoodIn wsX3_playPart (wsV RX3 126 RX0 yX0_endNight wsX0_endNight) := goodIn_app (goodIn_of _ (by decide +kernel)) ggX3_playPart_X0_endNight
theorem dX3_playPart_0 : decode cX3_playPart 0 = .ok (.aload_n 0, 1) := by decide +kernel
theorem dX3_playPart_1 : decode cX3_playPart 1 = .ok (.getfield 44, 3) := by decide +kernel
theorem dX3_playPart_4 : decode cX3_playPart 4 = .ok (.getfield 269, 3) := by decide +kernel
theorem dX3_playPart_7 : decode cX3_playPart 7 = .ok (.istore_n 1, 1) := by decide +kernel
theorem dX3_playPart_8 : decode cX3_playPart 8 = .ok (.aload_n 0, 1) := by decide +kernel
theorem dX3_playPart_9 : decode cX3_playPart 9 = .ok (.getfield 44, 3) := by decide +kernel
theorem dX3_playPart_12 : decode cX3_playPart 12 = .ok (.getfield 272, 3) := by decide +kernel
theorem dX3_playPart_15 : decode cX3_playPart 15 = .ok (.istore_n 2, 1) := by decide +kernel
theorem dX3_playPart_16 : decode cX3_playPart 16 = .ok (.aload_n 0, 1) := by decide +kernel
theorem dX3_playPart_17 : decode cX3_playPart 17 = .ok (.getfield 44, 3) := by decide +kernel
theorem dX3_playPart_20 : decode cX3_playPart 20 = .ok (.getfield 275, 3) := by decide +kernel
theorem dX3_playPart_23 : decode cX3_playPart 23 = .ok (.lookupswitch 87 #[(98, 56), (104, 49), (109, 63), (111, 76), (120, 70)], 49) := by decide +kernel
theorem dX3_playPart_72 : decode cX3_playPart 72 = .ok (.aload_n 0, 1) := by decide +kernel
theorem dX3_playPart_73 : decode cX3_playPart 73 = .ok (.iload_n 1, 1) := by decide +kernel
theorem dX3_playPart_74 : decode cX3_playPart 74 = .ok (.iload_n 2, 1) := by decide +kernel
theorem dX3_playPart_75 : decode cX3_playPart 75 = .ok (.invokevirtual 278, 3) := by decide +kernel
theorem dX3_playPart_78 : decode cX3_playPart 78 = .ok (.ireturn, 1) := by decide +kernel
theorem dX3_playPart_79 : decode cX3_playPart 79 = .ok (.aload_n 0, 1) := by decide +kernel
theorem dX3_playPart_80 : decode cX3_playPart 80 = .ok (.iload_n 1, 1) := by decide +kernel
theorem dX3_playPart_81 : decode cX3_playPart 81 = .ok (.iload_n 2, 1) := by decide +kernel
theorem dX3_playPart_82 : decode cX3_playPart 82 = .ok (.invokevirtual 281, 3) := by decide +kernel
theorem dX3_playPart_85 : decode cX3_playPart 85 = .ok (.ireturn, 1) := by decide +kernel
theorem dX3_playPart_86 : decode cX3_playPart 86 = .ok (.aload_n 0, 1) := by decide +kernel
theorem dX3_playPart_87 : decode cX3_playPart 87 = .ok (.iload_n 1, 1) := by decide +kernel
theorem dX3_playPart_88 : decode cX3_playPart 88 = .ok (.iload_n 2, 1) := by decide +kernel
theorem dX3_playPart_89 : decode cX3_playPart 89 = .ok (.invokevirtual 284, 3) := by decide +kernel
theorem dX3_playPart_92 : decode cX3_playPart 92 = .ok (.ireturn, 1) := by decide +kernel
theorem dX3_playPart_93 : decode cX3_playPart 93 = .ok (.aload_n 0, 1) := by decide +kernel
theorem dX3_playPart_94 : decode cX3_playPart 94 = .ok (.iload_n 1, 1) := by decide +kernel
theorem dX3_playPart_95 : decode cX3_playPart 95 = .ok (.invokevirtual 287, 3) := by decide +kernel
theorem dX3_playPart_98 : decode cX3_playPart 98 = .ok (.ireturn, 1) := by decide +kernel
theorem dX3_playPart_99 : decode cX3_playPart 99 = .ok (.aload_n 0, 1) := by decide +kernel
theorem dX3_playPart_100 : decode cX3_playPart 100 = .ok (.getfield 10, 3) := by decide +kernel
theorem dX3_playPart_103 : decode cX3_playPart 103 = .ok (.iload_n 1, 1) := by decide +kernel
theorem dX3_playPart_104 : decode cX3_playPart 104 = .ok (.iconst 1, 1) := by decide +kernel
theorem dX3_playPart_105 : decode cX3_playPart 105 = .ok (.invokevirtual 99, 3) := by decide +kernel
theorem dX3_playPart_108 : decode cX3_playPart 108 = .ok (.iconst 0, 1) := by decide +kernel
theorem dX3_playPart_109 : decode cX3_playPart 109 = .ok (.ireturn, 1) := by decide +kernel
theorem dX3_playPart_110 : decode cX3_playPart 110 = .ok (.aload_n 0, 1) := by decide +kernel
theorem dX3_playPart_111 : decode cX3_playPart 111 = .ok (.getfield 10, 3) := by decide +kernel
theorem dX3_playPart_114 : decode cX3_playPart 114 = .ok (.invokevirtual 126, 3) := by decide +kernel
theorem dX3_playPart_117 : decode cX3_playPart 117 = .ok (.pop, 1) := by decide +kernel
theorem dX3_playPart_118 : decode cX3_playPart 118 = .ok (.iconst 0, 1) := by decide +kernel
theorem dX3_playPart_119 : decode cX3_playPart 119 = .ok (.ireturn, 1) := by decide +kernel
set_option maxRecDepth 20000 in
theorem ggX3_playHome_X0_exists : GoodIn wsX3_playHome wsX0_exists := goodIn_r _ [6, 7, 71, 72, 73, 74, 75, 76, 77, 78, 79, 80] (by decide +kernel) (by decide +kernel)
set_option maxRecDepth 20000 in
theorem gX3_playHome_X0_exists : GoodIn wsX3_playHome (wsV RX3 235 RX0 yX0_exists wsX0_exists) := goodIn_app (goodIn_of _ (by decide +kernel)) ggX3_playHome_X0_exists
set_option maxRecDepth 20000 in
theorem ggX3_playHome_X0_reasonNotHome : GoodIn wsX3_playHome wsX0_reasonNotHome := goodIn_r _ [11, 7, 12, 71, 72, 73, 74, 75, 76, 77, 78, 79, 80] (by decide +kernel) (by decide +kernel)
set_option maxRecDepth 20000 in
theorem gX3_playHome_X0_reasonNotHome : GoodIn wsX3_playHome (wsV RX3 118 RX0 yX0_reasonNotHome wsX0_reasonNotHome) := goodIn_app (goodIn_of _ (by decide +kernel)) ggX3_playHome_X0_reasonNotHome
set_option maxRecDepth 20000 in
theorem ggX3_playHome_X0_comeHome : GoodIn wsX3_playHome wsX0_comeHome := goodIn_r _ [16, 12, 17, 18, 19, 7, 20, 21, 22, 5, 23, 24, 25, 26, 27, 28, 29, 30, 31, 32, 3, 4, 6, 33, 34, 35, 36, 37, 38, 39, 40, 41, 42, 43, 44, 45, 46, 47, 48, 49, 50, 51, 52, 53, 54, 55, 56, 57, 58, 59, 60, 61, 71, 72, 73, 74, 75, 76, 77, 78, 79, 80, 81, 82, 83] (by decide +kernel) (by decide +kernel)
set_option maxRecDepth 20000 in
theorem gX3_playHome_X0_comeHome : GoodIn wsX3_playHome (wsV RX3 123 RX0 yX0_comeHome wsX0_comeHome) := goodIn_app (goodIn_of _ (by decide +kernel)) ggX3_playHome_X0_comeHome
theorem dX3_playHome_0 : decode cX3_playHome 0 = .ok (.aload_n 0, 1) := by decide +kernel
theorem dX3_playHome_1 : decode cX3_playHome 1 = .ok (.getfield 10, 3) := by decide +kernel
theorem dX3_playHome_4 : decode cX3_playHome 4 = .ok (.iload_n 1, 1) := by decide +kernel
theorem dX3_playHome_5 : decode cX3_playHome 5 = .ok (.invokevirtual 235, 3) := by decide +kernel
theorem dX3_playHome_8 : decode cX3_playHome 8 = .ok (.ifCond .ne 6, 3) := by decide +kernel
theorem dX3_playHome_11 : decode cX3_playHome 11 = .ok (.bipush 10, 2) := by decide +kernel
theorem dX3_playHome_13 : decode cX3_playHome 13 = .ok (.ireturn, 1) := by decide +kernel
theorem dX3_playHome_14 : decode cX3_playHome 14 = .ok (.aload_n 0, 1) := by decide +kernel
theorem dX3_playHome_15 : decode cX3_playHome 15 = .ok (.getfield 10, 3) := by decide +kernel
theorem dX3_playHome_18 : decode cX3_playHome 18 = .ok (.iload_n 1, 1) := by decide +kernel
theorem dX3_playHome_19 : decode cX3_playHome 19 = .ok (.iload_n 2, 1) := by decide +kernel
theorem dX3_playHome_20 : decode cX3_playHome 20 = .ok (.invokevirtual 118, 3) := by decide +kernel
theorem dX3_playHome_23 : decode cX3_playHome 23 = .ok (.istore_n 3, 1) := by decide +kernel
theorem dX3_playHome_24 : decode cX3_playHome 24 = .ok (.iload_n 3, 1) := by decide +kernel
theorem dX3_playHome_25 : decode cX3_playHome 25 = .ok (.ifCond .ne 13, 3) := by decide +kernel
theorem dX3_playHome_28 : decode cX3_playHome 28 = .ok (.aload_n 0, 1) := by decide +kernel
theorem dX3_playHome_29 : decode cX3_playHome 29 = .ok (.getfield 10, 3) := by decide +kernel
theorem dX3_playHome_32 : decode cX3_playHome 32 = .ok (.iload_n 1, 1) := by decide +kernel
theorem dX3_playHome_33 : decode cX3_playHome 33 = .ok (.iload_n 2, 1) := by decide +kernel
theorem dX3_playHome_34 : decode cX3_playHome 34 = .ok (.invokevirtual 123, 3) := by decide +kernel
theorem dX3_playHome_37 : decode cX3_playHome 37 = .ok (.pop, 1) := by decide +kernel
theorem dX3_playHome_38 : decode cX3_playHome 38 = .ok (.iload_n 3, 1) := by decide +kernel
theorem dX3_playHome_39 : decode cX3_playHome 39 = .ok (.ireturn, 1) := by decide +kernel
set_option maxRecDepth 20000 in
theorem ggX3_playBuy_X0_reasonNotToBuy : GoodIn wsX3_playBuy wsX0_reasonNotToBuy := goodIn_r _ [6, 7, 8, 9, 10, 5, 11, 12, 13, 14, 15, 16, 17, 18, 19, 20, 21, 22, 23, 37, 38, 39, 40, 41, 42, 43, 44, 45, 46] (by decide +kernel) (by decide +kernel)
set_option maxRecDepth 20000 in
theorem gX3_playBuy_X0_reasonNotToBuy : GoodIn wsX3_playBuy (wsV RX3 59 RX0 yX0_reasonNotToBuy wsX0_reasonNotToBuy) := goodIn_app (goodIn_of _ (by decide +kernel)) ggX3_playBuy_X0_reasonNotToBuy
set_option maxRecDepth 20000 in
theorem ggX3_playBuy_X0_addDove : GoodIn wsX3_playBuy wsX0_addDove := goodIn_r _ [27, 16, 7, 12, 13, 14, 5, 15, 37, 38, 39, 40, 41, 42, 43, 44, 45, 46] (by decide +kernel) (by decide +kernel)
set_option maxRecDepth 20000 in
theorem gX3_playBuy_X0_addDove : GoodIn wsX3_playBuy (wsV RX3 71 RX0 yX0_addDove wsX0_addDove) := goodIn_app (goodIn_of _ (by decide +kernel)) ggX3_playBuy_X0_addDove
theorem dX3_playBuy_0 : decode cX3_playBuy 0 = .ok (.aload_n 0, 1) := by decide +kernel
theorem dX3_playBuy_1 : decode cX3_playBuy 1 = .ok (.getfield 10, 3) := by decide +kernel
theorem dX3_playBuy_4 : decode cX3_playBuy 4 = .ok (.iload_n 1, 1) := by decide +kernel
theorem dX3_playBuy_5 : decode cX3_playBuy 5 = .ok (.invokevirtual 59, 3) := by decide +kernel
theorem dX3_playBuy_8 : decode cX3_playBuy 8 = .ok (.istore_n 3, 1) := by decide +kernel
theorem dX3_playBuy_9 : decode cX3_playBuy 9 = .ok (.iload_n 3, 1) := by decide +kernel
theorem dX3_playBuy_10 : decode cX3_playBuy 10 = .ok (.ifCond .ne 13, 3) := by decide +kernel
theorem dX3_playBuy_13 : decode cX3_playBuy 13 = .ok (.aload_n 0, 1) := by decide +kernel
theorem dX3_playBuy_14 : decode cX3_playBuy 14 = .ok (.getfield 10, 3) := by decide +kernel
theorem dX3_playBuy_17 : decode cX3_playBuy 17 = .ok (.iload_n 1, 1) := by decide +kernel
theorem dX3_playBuy_18 : decode cX3_playBuy 18 = .ok (.iload_n 2, 1) := by decide +kernel
theorem dX3_playBuy_19 : decode cX3_playBuy 19 = .ok (.invokevirtual 71, 3) := by decide +kernel
theorem dX3_playBuy_22 : decode cX3_playBuy 22 = .ok (.pop, 1) := by decide +kernel
theorem dX3_playBuy_23 : decode cX3_playBuy 23 = .ok (.iload_n 3, 1) := by decide +kernel
theorem dX3_playBuy_24 : decode cX3_playBuy 24 = .ok (.ireturn, 1) := by decide +kernel
set_option maxRecDepth 20000 in
theorem ggX3_playMate_X0_exists : GoodIn wsX3_playMate wsX0_exists := goodIn_r _ [6, 7, 25, 26, 27, 28, 29, 30, 31, 32, 33, 34] (by decide +kernel) (by decide +kernel)
set_option maxRecDepth 20000 in
theorem gX3_playMate_X0_exists : GoodIn wsX3_playMate (wsV RX3 235 RX0 yX0_exists wsX0_exists) := goodIn_app (goodIn_of _ (by decide +kernel)) ggX3_playMate_X0_exists
set_option maxRecDepth 20000 in
theorem ggX3_playMate_X0_reasonNotToPair : GoodIn wsX3_playMate wsX0_reasonNotToPair := goodIn_r _ [11, 7, 25, 26, 27, 28, 29, 30, 31, 32, 33, 34] (by decide +kernel) (by decide +kernel)
set_option maxRecDepth 20000 in
theorem gX3_playMate_X0_reasonNotToPair : GoodIn wsX3_playMate (wsV RX3 81 RX0 yX0_reasonNotToPair wsX0_reasonNotToPair) := goodIn_app (goodIn_of _ (by decide +kernel)) ggX3_playMate_X0_reasonNotToPair
set_option maxRecDepth 20000 in
theorem ggX3_playMate_X0_pair : GoodIn wsX3_playMate wsX0_pair := goodIn_r _ [15, 7, 25, 26, 27, 28, 29, 30, 31, 32, 33, 34] (by decide +kernel) (by decide +kernel)
set_option maxRecDepth 20000 in
theorem gX3_playMate_X0_pair : GoodIn wsX3_playMate (wsV RX3 86 RX0 yX0_pair wsX0_pair) := goodIn_app (goodIn_of _ (by decide +kernel)) ggX3_playMate_X0_pair
theorem dX3_playMate_0 : decode cX3_playMate 0 = .ok (.aload_n 0, 1) := by decide +kernel
theorem dX3_playMate_1 : decode cX3_playMate 1 = .ok (.getfield 10, 3) := by decide +kernel
theorem dX3_playMate_4 : decode cX3_playMate 4 = .ok (.iload_n 1, 1) := by decide +kernel
theorem dX3_playMate_5 : decode cX3_playMate 5 = .ok (.invokevirtual 235, 3) := by decide +kernel
theorem dX3_playMate_8 : decode cX3_playMate 8 = .ok (.ifCond .eq 14, 3) := by decide +kernel
theorem dX3_playMate_11 : decode cX3_playMate 11 = .ok (.aload_n 0, 1) := by decide +kernel
theorem dX3_playMate_12 : decode cX3_playMate 12 = .ok (.getfield 10, 3) := by decide +kernel
theorem dX3_playMate_15 : decode cX3_playMate 15 = .ok (.iload_n 2, 1) := by decide +kernel
theorem dX3_playMate_16 : decode cX3_playMate 16 = .ok (.invokevirtual 235, 3) := by decide +kernel
theorem dX3_playMate_19 : decode cX3_playMate 19 = .ok (.ifCond .ne 6, 3) := by decide +kernel
theorem dX3_playMate_22 : decode cX3_playMate 22 = .ok (.bipush 10, 2) := by decide +kernel
theorem dX3_playMate_24 : decode cX3_playMate 24 = .ok (.ireturn, 1) := by decide +kernel
theorem dX3_playMate_25 : decode cX3_playMate 25 = .ok (.aload_n 0, 1) := by decide +kernel
theorem dX3_playMate_26 : decode cX3_playMate 26 = .ok (.getfield 10, 3) := by decide +kernel
theorem dX3_playMate_29 : decode cX3_playMate 29 = .ok (.iload_n 1, 1) := by decide +kernel
theorem dX3_playMate_30 : decode cX3_playMate 30 = .ok (.iload_n 2, 1) := by decide +kernel
theorem dX3_playMate_31 : decode cX3_playMate 31 = .ok (.invokevirtual 81, 3) := by decide +kernel
theorem dX3_playMate_34 : decode cX3_playMate 34 = .ok (.istore_n 3, 1) := by decide +kernel
theorem dX3_playMate_35 : decode cX3_playMate 35 = .ok (.iload_n 3, 1) := by decide +kernel
theorem dX3_playMate_36 : decode cX3_playMate 36 = .ok (.ifCond .ne 12, 3) := by decide +kernel
theorem dX3_playMate_39 : decode cX3_playMate 39 = .ok (.aload_n 0, 1) := by decide +kernel
theorem dX3_playMate_40 : decode cX3_playMate 40 = .ok (.getfield 10, 3) := by decide +kernel
theorem dX3_playMate_43 : decode cX3_playMate 43 = .ok (.iload_n 1, 1) := by decide +kernel
theorem dX3_playMate_44 : decode cX3_playMate 44 = .ok (.iload_n 2, 1) := by decide +kernel
theorem dX3_playMate_45 : decode cX3_playMate 45 = .ok (.invokevirtual 86, 3) := by decide +kernel
theorem dX3_playMate_48 : decode cX3_playMate 48 = .ok (.iload_n 3, 1) := by decide +kernel
theorem dX3_playMate_49 : decode cX3_playMate 49 = .ok (.ireturn, 1) := by decide +kernel
set_option maxRecDepth 20000 in
theorem ggX3_playShut_X0_reasonNotToShut : GoodIn wsX3_playShut wsX0_reasonNotToShut := goodIn_r _ [6, 7, 8, 9, 10, 11, 12, 13, 5, 14, 28, 29, 30, 31, 32, 33, 34, 35, 36, 37] (by decide +kernel) (by decide +kernel)
set_option maxRecDepth 20000 in
theorem gX3_playShut_X0_reasonNotToShut : GoodIn wsX3_playShut (wsV RX3 94 RX0 yX0_reasonNotToShut wsX0_reasonNotToShut) := goodIn_app (goodIn_of _ (by decide +kernel)) ggX3_playShut_X0_reasonNotToShut
set_option maxRecDepth 20000 in
theorem ggX3_playShut_X0_setOpen : GoodIn wsX3_playShut wsX0_setOpen := goodIn_r _ [18, 7, 8, 9, 10, 28, 29, 30, 31, 32, 33, 34, 35, 36, 37] (by decide +kernel) (by decide +kernel)
set_option maxRecDepth 20000 in
theorem gX3_playShut_X0_setOpen : GoodIn wsX3_playShut (wsV RX3 99 RX0 yX0_setOpen wsX0_setOpen) := goodIn_app (goodIn_of _ (by decide +kernel)) ggX3_playShut_X0_setOpen
theorem dX3_playShut_0 : decode cX3_playShut 0 = .ok (.aload_n 0, 1) := by decide +kernel
theorem dX3_playShut_1 : decode cX3_playShut 1 = .ok (.getfield 10, 3) := by decide +kernel
theorem dX3_playShut_4 : decode cX3_playShut 4 = .ok (.iload_n 1, 1) := by decide +kernel
theorem dX3_playShut_5 : decode cX3_playShut 5 = .ok (.invokevirtual 94, 3) := by decide +kernel
theorem dX3_playShut_8 : decode cX3_playShut 8 = .ok (.istore_n 2, 1) := by decide +kernel
theorem dX3_playShut_9 : decode cX3_playShut 9 = .ok (.iload_n 2, 1) := by decide +kernel
theorem dX3_playShut_10 : decode cX3_playShut 10 = .ok (.ifCond .ne 12, 3) := by decide +kernel
theorem dX3_playShut_13 : decode cX3_playShut 13 = .ok (.aload_n 0, 1) := by decide +kernel
theorem dX3_playShut_14 : decode cX3_playShut 14 = .ok (.getfield 10, 3) := by decide +kernel
theorem dX3_playShut_17 : decode cX3_playShut 17 = .ok (.iload_n 1, 1) := by decide +kernel
theorem dX3_playShut_18 : decode cX3_playShut 18 = .ok (.iconst 0, 1) := by decide +kernel
theorem dX3_playShut_19 : decode cX3_playShut 19 = .ok (.invokevirtual 99, 3) := by decide +kernel
theorem dX3_playShut_22 : decode cX3_playShut 22 = .ok (.iload_n 2, 1) := by decide +kernel
theorem dX3_playShut_23 : decode cX3_playShut 23 = .ok (.ireturn, 1) := by decide +kernel
set_option maxRecDepth 20000 in
theorem ggX3_tryHome_X0_reasonNotHome : GoodIn wsX3_tryHome wsX0_reasonNotHome := goodIn_r _ [7, 8, 9, 87, 88, 89, 90, 91, 92, 93, 94, 95, 96] (by decide +kernel) (by decide +kernel)
set_option maxRecDepth 20000 in
theorem gX3_tryHome_X0_reasonNotHome : GoodIn wsX3_tryHome (wsV RX3 118 RX0 yX0_reasonNotHome wsX0_reasonNotHome) := goodIn_app (goodIn_of _ (by decide +kernel)) ggX3_tryHome_X0_reasonNotHome
set_option maxRecDepth 20000 in
theorem ggX3_tryHome_X0_copyFrom : GoodIn wsX3_tryHome wsX0_copyFrom := goodIn_r _ [13, 8, 14, 15, 16, 17, 18, 19, 20, 21, 22, 23, 9, 24, 25, 26, 27, 28, 29, 30, 31, 32, 33, 34, 87, 88, 89, 90, 91, 92, 93, 94, 95, 96, 97, 98, 99] (by decide +kernel) (by decide +kernel)
set_option maxRecDepth 20000 in
theorem gX3_tryHome_X0_copyFrom : GoodIn wsX3_tryHome (wsV RX3 162 RX0 yX0_copyFrom wsX0_copyFrom) := goodIn_app (goodIn_of _ (by decide +kernel)) ggX3_tryHome_X0_copyFrom
set_option maxRecDepth 20000 in
theorem ggX3_tryHome_X0_comeHome : GoodIn wsX3_tryHome wsX0_comeHome := goodIn_r _ [38, 9, 22, 24, 19, 8, 39, 40, 41, 6, 42, 18, 43, 44, 45, 46, 47, 48, 49, 50, 51, 52, 53, 54, 55, 56, 57, 25, 58, 59, 60, 61, 62, 63, 64, 29, 65, 34, 31, 33, 66, 67, 68, 69, 70, 71, 72, 73, 74, 75, 76, 77, 87, 88, 89, 90, 91, 92, 93, 94, 95, 96, 97, 98, 99] (by decide +kernel) (by decide +kernel)
set_option maxRecDepth 20000 in
theorem gX3_tryHome_X0_comeHome : GoodIn wsX3_tryHome (wsV RX3 123 RX0 yX0_comeHome wsX0_comeHome) := goodIn_app (goodIn_of _ (by decide +kernel)) ggX3_tryHome_X0_comeHome
theorem dX3_tryHome_0 : decode cX3_tryHome 0 = .ok (.aload_n 0, 1) := by decide +kernel
theorem dX3_tryHome_1 : decode cX3_tryHome 1 = .ok (.getfield 10, 3) := by decide +kernel
theorem dX3_tryHome_4 : decode cX3_tryHome 4 = .ok (.iload_n 1, 1) := by decide +kernel
theorem dX3_tryHome_5 : decode cX3_tryHome 5 = .ok (.iload_n 2, 1) := by decide +kernel
theorem dX3_tryHome_6 : decode cX3_tryHome 6 = .ok (.invokevirtual 118, 3) := by decide +kernel
theorem dX3_tryHome_9 : decode cX3_tryHome 9 = .ok (.ifCond .eq 5, 3) := by decide +kernel
theorem dX3_tryHome_12 : decode cX3_tryHome 12 = .ok (.iconst 0, 1) := by decide +kernel
theorem dX3_tryHome_13 : decode cX3_tryHome 13 = .ok (.ireturn, 1) := by decide +kernel
theorem dX3_tryHome_14 : decode cX3_tryHome 14 = .ok (.aload_n 0, 1) := by decide +kernel
theorem dX3_tryHome_15 : decode cX3_tryHome 15 = .ok (.getfield 16, 3) := by decide +kernel
theorem dX3_tryHome_18 : decode cX3_tryHome 18 = .ok (.aload_n 0, 1) := by decide +kernel
theorem dX3_tryHome_19 : decode cX3_tryHome 19 = .ok (.getfield 10, 3) := by decide +kernel
theorem dX3_tryHome_22 : decode cX3_tryHome 22 = .ok (.invokevirtual 162, 3) := by decide +kernel
theorem dX3_tryHome_25 : decode cX3_tryHome 25 = .ok (.aload_n 0, 1) := by decide +kernel
theorem dX3_tryHome_26 : decode cX3_tryHome 26 = .ok (.getfield 16, 3) := by decide +kernel
theorem dX3_tryHome_29 : decode cX3_tryHome 29 = .ok (.iload_n 1, 1) := by decide +kernel
theorem dX3_tryHome_30 : decode cX3_tryHome 30 = .ok (.iload_n 2, 1) := by decide +kernel
theorem dX3_tryHome_31 : decode cX3_tryHome 31 = .ok (.invokevirtual 123, 3) := by decide +kernel
theorem dX3_tryHome_34 : decode cX3_tryHome 34 = .ok (.pop, 1) := by decide +kernel
theorem dX3_tryHome_35 : decode cX3_tryHome 35 = .ok (.iconst 1, 1) := by decide +kernel
theorem dX3_tryHome_36 : decode cX3_tryHome 36 = .ok (.ireturn, 1) := by decide +kernel
set_option maxRecDepth 20000 in
theorem ggX3_trialNumber_X0_placedAt : GoodIn wsX3_trialNumber wsX0_placedAt := goodIn_r _ [7, 8, 9, 10, 11, 6, 12, 22, 23, 24, 25, 26, 27, 28, 29, 30, 31] (by decide +kernel) (by decide +kernel)
set_option maxRecDepth 20000 in
theorem gX3_trialNumber_X0_placedAt : GoodIn wsX3_trialNumber (wsV RX3 293 RX0 yX0_placedAt wsX0_placedAt) := goodIn_app (goodIn_of _ (by decide +kernel)) ggX3_trialNumber_X0_placedAt
theorem dX3_trialNumber_0 : decode cX3_trialNumber 0 = .ok (.iload_n 2, 1) := by decide +kernel
theorem dX3_trialNumber_1 : decode cX3_trialNumber 1 = .ok (.ifCond .ne 15, 3) := by decide +kernel
theorem dX3_trialNumber_4 : decode cX3_trialNumber 4 = .ok (.aload_n 0, 1) := by decide +kernel
theorem dX3_trialNumber_5 : decode cX3_trialNumber 5 = .ok (.getfield 16, 3) := by decide +kernel
theorem dX3_trialNumber_8 : decode cX3_trialNumber 8 = .ok (.getfield 173, 3) := by decide +kernel
theorem dX3_trialNumber_11 : decode cX3_trialNumber 11 = .ok (.iconst 2, 1) := by decide +kernel
theorem dX3_trialNumber_12 : decode cX3_trialNumber 12 = .ok (.aaload, 1) := by decide +kernel
theorem dX3_trialNumber_13 : decode cX3_trialNumber 13 = .ok (.iload_n 1, 1) := by decide +kernel
theorem dX3_trialNumber_14 : decode cX3_trialNumber 14 = .ok (.iaload, 1) := by decide +kernel
theorem dX3_trialNumber_15 : decode cX3_trialNumber 15 = .ok (.ireturn, 1) := by decide +kernel
theorem dX3_trialNumber_16 : decode cX3_trialNumber 16 = .ok (.iload_n 2, 1) := by decide +kernel
theorem dX3_trialNumber_17 : decode cX3_trialNumber 17 = .ok (.iconst 1, 1) := by decide +kernel
theorem dX3_trialNumber_18 : decode cX3_trialNumber 18 = .ok (.if_icmp .ne 19, 3) := by decide +kernel
theorem dX3_trialNumber_21 : decode cX3_trialNumber 21 = .ok (.aload_n 0, 1) := by decide +kernel
theorem dX3_trialNumber_22 : decode cX3_trialNumber 22 = .ok (.getfield 16, 3) := by decide +kernel
theorem dX3_trialNumber_25 : decode cX3_trialNumber 25 = .ok (.getfield 290, 3) := by decide +kernel
theorem dX3_trialNumber_28 : decode cX3_trialNumber 28 = .ok (.aload_n 0, 1) := by decide +kernel
theorem dX3_trialNumber_29 : decode cX3_trialNumber 29 = .ok (.getfield 10, 3) := by decide +kernel
theorem dX3_trialNumber_32 : decode cX3_trialNumber 32 = .ok (.getfield 290, 3) := by decide +kernel
theorem dX3_trialNumber_35 : decode cX3_trialNumber 35 = .ok (.isub, 1) := by decide +kernel
theorem dX3_trialNumber_36 : decode cX3_trialNumber 36 = .ok (.ireturn, 1) := by decide +kernel
theorem dX3_trialNumber_37 : decode cX3_trialNumber 37 = .ok (.aload_n 0, 1) := by decide +kernel
theorem dX3_trialNumber_38 : decode cX3_trialNumber 38 = .ok (.getfield 16, 3) := by decide +kernel
theorem dX3_trialNumber_41 : decode cX3_trialNumber 41 = .ok (.bipush 24, 2) := by decide +kernel
theorem dX3_trialNumber_43 : decode cX3_trialNumber 43 = .ok (.invokevirtual 293, 3) := by decide +kernel
theorem dX3_trialNumber_46 : decode cX3_trialNumber 46 = .ok (.aload_n 0, 1) := by decide +kernel
theorem dX3_trialNumber_47 : decode cX3_trialNumber 47 = .ok (.getfield 10, 3) := by decide +kernel
theorem dX3_trialNumber_50 : decode cX3_trialNumber 50 = .ok (.bipush 24, 2) := by decide +kernel
theorem dX3_trialNumber_52 : decode cX3_trialNumber 52 = .ok (.invokevirtual 293, 3) := by decide +kernel
theorem dX3_trialNumber_55 : decode cX3_trialNumber 55 = .ok (.isub, 1) := by decide +kernel
theorem dX3_trialNumber_56 : decode cX3_trialNumber 56 = .ok (.ireturn, 1) := by decide +kernel
set_option maxRecDepth 20000 in
theorem ggX3_sittingIfAllCame_X0_copyFrom : GoodIn wsX3_sittingIfAllCame wsX0_copyFrom := goodIn_r _ [7, 8, 9, 10, 11, 12, 13, 14, 15, 16, 17, 18, 19, 20, 21, 22, 23, 24, 25, 26, 27, 28, 29, 30, 96, 97, 98, 99, 100, 101, 102, 103, 104, 105, 106, 107, 108] (by decide +kernel) (by decide +kernel)
set_option maxRecDepth 20000 in
theorem gX3_sittingIfAllCame_X0_copyFrom : GoodIn wsX3_sittingIfAllCame (wsV RX3 162 RX0 yX0_copyFrom wsX0_copyFrom) := goodIn_app (goodIn_of _ (by decide +kernel)) ggX3_sittingIfAllCame_X0_copyFrom
set_option maxRecDepth 20000 in
theorem ggX3_sittingIfAllCame_X0_exists : GoodIn wsX3_sittingIfAllCame wsX0_exists := goodIn_r _ [34, 8, 96, 97, 98, 99, 100, 101, 102, 103, 104, 105] (by decide +kernel) (by decide +kernel)
set_option maxRecDepth 20000 in
theorem gX3_sittingIfAllCame_X0_exists : GoodIn wsX3_sittingIfAllCame (wsV RX3 235 RX0 yX0_exists wsX0_exists) := goodIn_app (goodIn_of _ (by decide +kernel)) ggX3_sittingIfAllCame_X0_exists
set_option maxRecDepth 20000 in
theorem ggX3_sittingIfAllCame_X0_comeHome : GoodIn wsX3_sittingIfAllCame wsX0_comeHome := goodIn_r _ [38, 19, 17, 20, 14, 8, 39, 40, 41, 6, 42, 13, 43, 44, 45, 46, 47, 48, 49, 50, 32, 33, 34, 51, 52, 53, 54, 21, 55, 56, 57, 58, 59, 60, 61, 25, 62, 30, 27, 29, 63, 64, 65, 66, 67, 68, 69, 70, 71, 72, 73, 74, 96, 97, 98, 99, 100, 101, 102, 103, 104, 105, 106, 107, 108] (by decide +kernel) (by decide +kernel)
set_option maxRecDepth 20000 in
theorem gX3_sittingIfAllCame_X0_comeHome : GoodIn wsX3_sittingIfAllCame (wsV RX3 123 RX0 yX0_comeHome wsX0_comeHome) := goodIn_app (goodIn_of _ (by decide +kernel)) ggX3_sittingIfAllCame_X0_comeHome
set_option maxRecDepth 20000 in
theorem ggX3_sittingIfAllCame_X0_sittingByDoves : GoodIn wsX3_sittingIfAllCame wsX0_sittingByDoves := goodIn_r _ [78, 79, 80, 81, 6, 82, 50, 32, 33, 34, 8, 83, 84, 85, 86, 96, 97, 98, 99, 100, 101, 102, 103, 104, 105] (by decide +kernel) (by decide +kernel)
set_option maxRecDepth 20000 in
theorem gX3_sittingIfAllCame_X0_sittingByDoves : GoodIn wsX3_sittingIfAllCame (wsV RX3 296 RX0 yX0_sittingByDoves wsX0_sittingByDoves) := goodIn_app (goodIn_of _ (by decide +kernel)) ggX3_sittingIfAllCame_X0_sittingByDoves
theorem dX3_sittingIfAllCame_0 : decode cX3_sittingIfAllCame 0 = .ok (.aload_n 0, 1) := by decide +kernel
theorem dX3_sittingIfAllCame_1 : decode cX3_sittingIfAllCame 1 = .ok (.getfield 16, 3) := by decide +kernel
theorem dX3_sittingIfAllCame_4 : decode cX3_sittingIfAllCame 4 = .ok (.aload_n 0, 1) := by decide +kernel
theorem dX3_sittingIfAllCame_5 : decode cX3_sittingIfAllCame 5 = .ok (.getfield 10, 3) := by decide +kernel
theorem dX3_sittingIfAllCame_8 : decode cX3_sittingIfAllCame 8 = .ok (.invokevirtual 162, 3) := by decide +kernel
theorem dX3_sittingIfAllCame_11 : decode cX3_sittingIfAllCame 11 = .ok (.iconst 0, 1) := by decide +kernel
theorem dX3_sittingIfAllCame_12 : decode cX3_sittingIfAllCame 12 = .ok (.istore_n 2, 1) := by decide +kernel
theorem dX3_sittingIfAllCame_13 : decode cX3_sittingIfAllCame 13 = .ok (.iload_n 2, 1) := by decide +kernel
theorem dX3_sittingIfAllCame_14 : decode cX3_sittingIfAllCame 14 = .ok (.bipush 16, 2) := by decide +kernel
theorem dX3_sittingIfAllCame_16 : decode cX3_sittingIfAllCame 16 = .ok (.if_icmp .ge 45, 3) := by decide +kernel
theorem dX3_sittingIfAllCame_19 : decode cX3_sittingIfAllCame 19 = .ok (.aload_n 0, 1) := by decide +kernel
theorem dX3_sittingIfAllCame_20 : decode cX3_sittingIfAllCame 20 = .ok (.getfield 16, 3) := by decide +kernel
theorem dX3_sittingIfAllCame_23 : decode cX3_sittingIfAllCame 23 = .ok (.iload_n 2, 1) := by decide +kernel
theorem dX3_sittingIfAllCame_24 : decode cX3_sittingIfAllCame 24 = .ok (.invokevirtual 235, 3) := by decide +kernel
theorem dX3_sittingIfAllCame_27 : decode cX3_sittingIfAllCame 27 = .ok (.ifCond .eq 28, 3) := by decide +kernel
theorem dX3_sittingIfAllCame_30 : decode cX3_sittingIfAllCame 30 = .ok (.aload_n 0, 1) := by decide +kernel
theorem dX3_sittingIfAllCame_31 : decode cX3_sittingIfAllCame 31 = .ok (.getfield 16, 3) := by decide +kernel
theorem dX3_sittingIfAllCame_34 : decode cX3_sittingIfAllCame 34 = .ok (.getfield 173, 3) := by decide +kernel
theorem dX3_sittingIfAllCame_37 : decode cX3_sittingIfAllCame 37 = .ok (.iconst 2, 1) := by decide +kernel
theorem dX3_sittingIfAllCame_38 : decode cX3_sittingIfAllCame 38 = .ok (.aaload, 1) := by decide +kernel
theorem dX3_sittingIfAllCame_39 : decode cX3_sittingIfAllCame 39 = .ok (.iload_n 2, 1) := by decide +kernel
theorem dX3_sittingIfAllCame_40 : decode cX3_sittingIfAllCame 40 = .ok (.iaload, 1) := by decide +kernel
theorem dX3_sittingIfAllCame_41 : decode cX3_sittingIfAllCame 41 = .ok (.iconst (-1), 1) := by decide +kernel
theorem dX3_sittingIfAllCame_42 : decode cX3_sittingIfAllCame 42 = .ok (.if_icmp .ne 13, 3) := by decide +kernel
theorem dX3_sittingIfAllCame_45 : decode cX3_sittingIfAllCame 45 = .ok (.aload_n 0, 1) := by decide +kernel
theorem dX3_sittingIfAllCame_46 : decode cX3_sittingIfAllCame 46 = .ok (.getfield 16, 3) := by decide +kernel
theorem dX3_sittingIfAllCame_49 : decode cX3_sittingIfAllCame 49 = .ok (.iload_n 2, 1) := by decide +kernel
theorem dX3_sittingIfAllCame_50 : decode cX3_sittingIfAllCame 50 = .ok (.iload_n 1, 1) := by decide +kernel
theorem dX3_sittingIfAllCame_51 : decode cX3_sittingIfAllCame 51 = .ok (.invokevirtual 123, 3) := by decide +kernel
theorem dX3_sittingIfAllCame_54 : decode cX3_sittingIfAllCame 54 = .ok (.pop, 1) := by decide +kernel
theorem dX3_sittingIfAllCame_55 : decode cX3_sittingIfAllCame 55 = .ok (.iinc 2 1, 3) := by decide +kernel
theorem dX3_sittingIfAllCame_58 : decode cX3_sittingIfAllCame 58 = .ok (.goto (-45), 3) := by decide +kernel
theorem dX3_sittingIfAllCame_61 : decode cX3_sittingIfAllCame 61 = .ok (.aload_n 0, 1) := by decide +kernel
theorem dX3_sittingIfAllCame_62 : decode cX3_sittingIfAllCame 62 = .ok (.getfield 16, 3) := by decide +kernel
theorem dX3_sittingIfAllCame_65 : decode cX3_sittingIfAllCame 65 = .ok (.invokevirtual 296, 3) := by decide +kernel
theorem dX3_sittingIfAllCame_68 : decode cX3_sittingIfAllCame 68 = .ok (.ireturn, 1) := by decide +kernel
theorem dX3_mix_0 : decode cX3_mix 0 = .ok (.ldc2_w 299, 3) := by decide +kernel
theorem dX3_mix_3 : decode cX3_mix 3 = .ok (.lload_n 0, 1) := by decide +kernel
theorem dX3_mix_4 : decode cX3_mix 4 = .ok (.lmul, 1) := by decide +kernel
theorem dX3_mix_5 : decode cX3_mix 5 = .ok (.lload_n 2, 1) := by decide +kernel
theorem dX3_mix_6 : decode cX3_mix 6 = .ok (.ladd, 1) := by decide +kernel
theorem dX3_mix_7 : decode cX3_mix 7 = .ok (.lreturn, 1) := by decide +kernel
set_option maxRecDepth 20000 in
theorem ggX3_mixDove_X3_mix : GoodIn wsX3_mixDove wsX3_mix := goodIn_r _ [6, 7] (by decide +kernel) (by decide +kernel)
set_option maxRecDepth 20000 in
theorem gX3_mixDove_X3_mix : GoodIn wsX3_mixDove (va_wsS RX3 231 yX3_mix wsX3_mix) := goodIn_app (goodIn_of _ (by decide +kernel)) ggX3_mixDove_X3_mix
set_option maxRecDepth 20000 in
theorem ggX3_mixDove_X0_reasonNotHome : GoodIn wsX3_mixDove wsX0_reasonNotHome := goodIn_r _ [12, 13, 14, 104, 105, 106, 107, 108, 109, 110, 111, 112, 113] (by decide +kernel) (by decide +kernel)
set_option maxRecDepth 20000 in
theorem gX3_mixDove_X0_reasonNotHome : GoodIn wsX3_mixDove (wsV RX3 118 RX0 yX0_reasonNotHome wsX0_reasonNotHome) := goodIn_app (goodIn_of _ (by decide +kernel)) ggX3_mixDove_X0_reasonNotHome
set_option maxRecDepth 20000 in
theorem ggX3_mixDove_X3_tryHome : GoodIn wsX3_mixDove wsX3_tryHome := goodIn_r _ [18, 1, 19, 8, 9, 10, 11, 12, 13, 14, 20, 21, 22, 23, 24, 25, 26, 27, 28, 29, 30, 31, 32, 33, 34, 35, 36, 37, 38, 39, 40, 41, 42, 43, 44, 45, 46, 47, 48, 49, 50, 51, 52, 53, 5, 54, 55, 56, 57, 58, 59, 60, 61, 62, 63, 64, 65, 66, 67, 68, 69, 70, 71, 72, 73, 74, 75, 76, 77, 78, 79, 80, 81, 82, 83, 84, 85, 86, 95, 96, 97, 98, 99, 100, 101, 102, 103, 104, 105, 106, 107, 108, 109, 110, 111, 112, 113, 114, 115, 116] (by decide +kernel) (by decide +kernel)
set_option maxRecDepth 20000 in
theorem gX3_mixDove_X3_tryHome : GoodIn wsX3_mixDove (wsV RX3 204 RX3 yX3_tryHome wsX3_tryHome) := goodIn_app (goodIn_of _ (by decide +kernel)) ggX3_mixDove_X3_tryHome
set_option maxRecDepth 20000 in
theorem ggX3_mixDove_X3_trialNumber : GoodIn wsX3_mixDove wsX3_trialNumber := goodIn_r _ [90, 19, 1, 91, 92, 93, 11, 94, 13, 59, 60, 61, 62, 95, 96, 97, 98, 99, 100, 101, 102, 103, 104, 105, 106, 107, 108, 109, 110, 111, 112, 113] (by decide +kernel) (by decide +kernel)
set_option maxRecDepth 20000 in
theorem gX3_mixDove_X3_trialNumber : GoodIn wsX3_mixDove (wsV RX3 208 RX3 yX3_trialNumber wsX3_trialNumber) := goodIn_app (goodIn_of _ (by decide +kernel)) ggX3_mixDove_X3_trialNumber
theorem dX3_mixDove_0 : decode cX3_mixDove 0 = .ok (.lload_n 1, 1) := by decide +kernel
theorem dX3_mixDove_1 : decode cX3_mixDove 1 = .ok (.iload_n 3, 1) := by decide +kernel
theorem dX3_mixDove_2 : decode cX3_mixDove 2 = .ok (.i2l, 1) := by decide +kernel
theorem dX3_mixDove_3 : decode cX3_mixDove 3 = .ok (.invokestatic 231, 3) := by decide +kernel
theorem dX3_mixDove_6 : decode cX3_mixDove 6 = .ok (.lstore 4, 2) := by decide +kernel
theorem dX3_mixDove_8 : decode cX3_mixDove 8 = .ok (.iconst 0, 1) := by decide +kernel
theorem dX3_mixDove_9 : decode cX3_mixDove 9 = .ok (.istore 6, 2) := by decide +kernel
theorem dX3_mixDove_11 : decode cX3_mixDove 11 = .ok (.iload 6, 2) := by decide +kernel
theorem dX3_mixDove_13 : decode cX3_mixDove 13 = .ok (.bipush 8, 2) := by decide +kernel
theorem dX3_mixDove_15 : decode cX3_mixDove 15 = .ok (.if_icmp .ge 29, 3) := by decide +kernel
theorem dX3_mixDove_18 : decode cX3_mixDove 18 = .ok (.lload 4, 2) := by decide +kernel
theorem dX3_mixDove_20 : decode cX3_mixDove 20 = .ok (.aload_n 0, 1) := by decide +kernel
theorem dX3_mixDove_21 : decode cX3_mixDove 21 = .ok (.getfield 10, 3) := by decide +kernel
theorem dX3_mixDove_24 : decode cX3_mixDove 24 = .ok (.getfield 173, 3) := by decide +kernel
theorem dX3_mixDove_27 : decode cX3_mixDove 27 = .ok (.iload 6, 2) := by decide +kernel
theorem dX3_mixDove_29 : decode cX3_mixDove 29 = .ok (.aaload, 1) := by decide +kernel
theorem dX3_mixDove_30 : decode cX3_mixDove 30 = .ok (.iload_n 3, 1) := by decide +kernel
theorem dX3_mixDove_31 : decode cX3_mixDove 31 = .ok (.iaload, 1) := by decide +kernel
theorem dX3_mixDove_32 : decode cX3_mixDove 32 = .ok (.i2l, 1) := by decide +kernel
theorem dX3_mixDove_33 : decode cX3_mixDove 33 = .ok (.invokestatic 231, 3) := by decide +kernel
theorem dX3_mixDove_36 : decode cX3_mixDove 36 = .ok (.lstore 4, 2) := by decide +kernel
theorem dX3_mixDove_38 : decode cX3_mixDove 38 = .ok (.iinc 6 1, 3) := by decide +kernel
theorem dX3_mixDove_41 : decode cX3_mixDove 41 = .ok (.goto (-30), 3) := by decide +kernel
theorem dX3_mixDove_44 : decode cX3_mixDove 44 = .ok (.lload 4, 2) := by decide +kernel
theorem dX3_mixDove_46 : decode cX3_mixDove 46 = .ok (.aload_n 0, 1) := by decide +kernel
theorem dX3_mixDove_47 : decode cX3_mixDove 47 = .ok (.getfield 10, 3) := by decide +kernel
theorem dX3_mixDove_50 : decode cX3_mixDove 50 = .ok (.iload_n 3, 1) := by decide +kernel
theorem dX3_mixDove_51 : decode cX3_mixDove 51 = .ok (.sipush 1439, 3) := by decide +kernel
theorem dX3_mixDove_54 : decode cX3_mixDove 54 = .ok (.invokevirtual 118, 3) := by decide +kernel
theorem dX3_mixDove_57 : decode cX3_mixDove 57 = .ok (.i2l, 1) := by decide +kernel
theorem dX3_mixDove_58 : decode cX3_mixDove 58 = .ok (.invokestatic 231, 3) := by decide +kernel
theorem dX3_mixDove_61 : decode cX3_mixDove 61 = .ok (.lstore 4, 2) := by decide +kernel
theorem dX3_mixDove_63 : decode cX3_mixDove 63 = .ok (.aload_n 0, 1) := by decide +kernel
theorem dX3_mixDove_64 : decode cX3_mixDove 64 = .ok (.iload_n 3, 1) := by decide +kernel
theorem dX3_mixDove_65 : decode cX3_mixDove 65 = .ok (.sipush 1439, 3) := by decide +kernel
theorem dX3_mixDove_68 : decode cX3_mixDove 68 = .ok (.invokevirtual 204, 3) := by decide +kernel
theorem dX3_mixDove_71 : decode cX3_mixDove 71 = .ok (.istore 6, 2) := by decide +kernel
theorem dX3_mixDove_73 : decode cX3_mixDove 73 = .ok (.iconst 0, 1) := by decide +kernel
theorem dX3_mixDove_74 : decode cX3_mixDove 74 = .ok (.istore 7, 2) := by decide +kernel
theorem dX3_mixDove_76 : decode cX3_mixDove 76 = .ok (.iload 7, 2) := by decide +kernel
theorem dX3_mixDove_78 : decode cX3_mixDove 78 = .ok (.iconst 3, 1) := by decide +kernel
theorem dX3_mixDove_79 : decode cX3_mixDove 79 = .ok (.if_icmp .ge 35, 3) := by decide +kernel
theorem dX3_mixDove_82 : decode cX3_mixDove 82 = .ok (.lload 4, 2) := by decide +kernel
theorem dX3_mixDove_84 : decode cX3_mixDove 84 = .ok (.iload 6, 2) := by decide +kernel
theorem dX3_mixDove_86 : decode cX3_mixDove 86 = .ok (.ifCond .eq 14, 3) := by decide +kernel
theorem dX3_mixDove_89 : decode cX3_mixDove 89 = .ok (.aload_n 0, 1) := by decide +kernel
theorem dX3_mixDove_90 : decode cX3_mixDove 90 = .ok (.iload_n 3, 1) := by decide +kernel
theorem dX3_mixDove_91 : decode cX3_mixDove 91 = .ok (.iload 7, 2) := by decide +kernel
theorem dX3_mixDove_93 : decode cX3_mixDove 93 = .ok (.invokevirtual 208, 3) := by decide +kernel
theorem dX3_mixDove_96 : decode cX3_mixDove 96 = .ok (.i2l, 1) := by decide +kernel
theorem dX3_mixDove_97 : decode cX3_mixDove 97 = .ok (.goto 6, 3) := by decide +kernel
theorem dX3_mixDove_100 : decode cX3_mixDove 100 = .ok (.ldc2_w 301, 3) := by decide +kernel
theorem dX3_mixDove_103 : decode cX3_mixDove 103 = .ok (.invokestatic 231, 3) := by decide +kernel
theorem dX3_mixDove_106 : decode cX3_mixDove 106 = .ok (.lstore 4, 2) := by decide +kernel
theorem dX3_mixDove_108 : decode cX3_mixDove 108 = .ok (.iinc 7 1, 3) := by decide +kernel
theorem dX3_mixDove_111 : decode cX3_mixDove 111 = .ok (.goto (-35), 3) := by decide +kernel
theorem dX3_mixDove_114 : decode cX3_mixDove 114 = .ok (.lload 4, 2) := by decide +kernel
theorem dX3_mixDove_116 : decode cX3_mixDove 116 = .ok (.lreturn, 1) := by decide +kernel
set_option maxRecDepth 20000 in
theorem ggX3_mixWay_X3_mix : GoodIn wsX3_mixWay wsX3_mix := goodIn_r _ [5, 6] (by decide +kernel) (by decide +kernel)
set_option maxRecDepth 20000 in
theorem gX3_mixWay_X3_mix : GoodIn wsX3_mixWay (va_wsS RX3 231 yX3_mix wsX3_mix) := goodIn_app (goodIn_of _ (by decide +kernel)) ggX3_mixWay_X3_mix
theorem dX3_mixWay_0 : decode cX3_mixWay 0 = .ok (.lload_n 1, 1) := by decide +kernel
theorem dX3_mixWay_1 : decode cX3_mixWay 1 = .ok (.lstore_n 3, 1) := by decide +kernel
theorem dX3_mixWay_2 : decode cX3_mixWay 2 = .ok (.iconst 0, 1) := by decide +kernel
theorem dX3_mixWay_3 : decode cX3_mixWay 3 = .ok (.istore 5, 2) := by decide +kernel
theorem dX3_mixWay_5 : decode cX3_mixWay 5 = .ok (.iload 5, 2) := by decide +kernel
theorem dX3_mixWay_7 : decode cX3_mixWay 7 = .ok (.aload_n 0, 1) := by decide +kernel
theorem dX3_mixWay_8 : decode cX3_mixWay 8 = .ok (.getfield 10, 3) := by decide +kernel
theorem dX3_mixWay_11 : decode cX3_mixWay 11 = .ok (.getfield 189, 3) := by decide +kernel
theorem dX3_mixWay_14 : decode cX3_mixWay 14 = .ok (.getfield 193, 3) := by decide +kernel
theorem dX3_mixWay_17 : decode cX3_mixWay 17 = .ok (.if_icmp .ge 47, 3) := by decide +kernel
theorem dX3_mixWay_20 : decode cX3_mixWay 20 = .ok (.lload_n 3, 1) := by decide +kernel
theorem dX3_mixWay_21 : decode cX3_mixWay 21 = .ok (.aload_n 0, 1) := by decide +kernel
theorem dX3_mixWay_22 : decode cX3_mixWay 22 = .ok (.getfield 10, 3) := by decide +kernel
theorem dX3_mixWay_25 : decode cX3_mixWay 25 = .ok (.getfield 189, 3) := by decide +kernel
theorem dX3_mixWay_28 : decode cX3_mixWay 28 = .ok (.getfield 198, 3) := by decide +kernel
theorem dX3_mixWay_31 : decode cX3_mixWay 31 = .ok (.iload 5, 2) := by decide +kernel
theorem dX3_mixWay_33 : decode cX3_mixWay 33 = .ok (.iaload, 1) := by decide +kernel
theorem dX3_mixWay_34 : decode cX3_mixWay 34 = .ok (.i2l, 1) := by decide +kernel
theorem dX3_mixWay_35 : decode cX3_mixWay 35 = .ok (.invokestatic 231, 3) := by decide +kernel
theorem dX3_mixWay_38 : decode cX3_mixWay 38 = .ok (.lstore_n 3, 1) := by decide +kernel
theorem dX3_mixWay_39 : decode cX3_mixWay 39 = .ok (.lload_n 3, 1) := by decide +kernel
theorem dX3_mixWay_40 : decode cX3_mixWay 40 = .ok (.aload_n 0, 1) := by decide +kernel
theorem dX3_mixWay_41 : decode cX3_mixWay 41 = .ok (.getfield 10, 3) := by decide +kernel
theorem dX3_mixWay_44 : decode cX3_mixWay 44 = .ok (.getfield 189, 3) := by decide +kernel
theorem dX3_mixWay_47 : decode cX3_mixWay 47 = .ok (.getfield 201, 3) := by decide +kernel
theorem dX3_mixWay_50 : decode cX3_mixWay 50 = .ok (.iload 5, 2) := by decide +kernel
theorem dX3_mixWay_52 : decode cX3_mixWay 52 = .ok (.iaload, 1) := by decide +kernel
theorem dX3_mixWay_53 : decode cX3_mixWay 53 = .ok (.i2l, 1) := by decide +kernel
theorem dX3_mixWay_54 : decode cX3_mixWay 54 = .ok (.invokestatic 231, 3) := by decide +kernel
theorem dX3_mixWay_57 : decode cX3_mixWay 57 = .ok (.lstore_n 3, 1) := by decide +kernel
theorem dX3_mixWay_58 : decode cX3_mixWay 58 = .ok (.iinc 5 1, 3) := by decide +kernel
theorem dX3_mixWay_61 : decode cX3_mixWay 61 = .ok (.goto (-56), 3) := by decide +kernel
theorem dX3_mixWay_64 : decode cX3_mixWay 64 = .ok (.lload_n 3, 1) := by decide +kernel
theorem dX3_mixWay_65 : decode cX3_mixWay 65 = .ok (.lreturn, 1) := by decide +kernel
theorem dX3_bitsOfShare_0 : decode cX3_bitsOfShare 0 = .ok (.dload_n 0, 1) := by decide +kernel
theorem dX3_bitsOfShare_1 : decode cX3_bitsOfShare 1 = .ok (.dconst 0, 1) := by decide +kernel
theorem dX3_bitsOfShare_2 : decode cX3_bitsOfShare 2 = .ok (.dcmp .g, 1) := by decide +kernel
theorem dX3_bitsOfShare_3 : decode cX3_bitsOfShare 3 = .ok (.ifCond .gt 5, 3) := by decide +kernel
theorem dX3_bitsOfShare_6 : decode cX3_bitsOfShare 6 = .ok (.lconst 0, 1) := by decide +kernel
theorem dX3_bitsOfShare_7 : decode cX3_bitsOfShare 7 = .ok (.lreturn, 1) := by decide +kernel
theorem dX3_bitsOfShare_8 : decode cX3_bitsOfShare 8 = .ok (.dload_n 0, 1) := by decide +kernel
theorem dX3_bitsOfShare_9 : decode cX3_bitsOfShare 9 = .ok (.dstore_n 2, 1) := by decide +kernel
theorem dX3_bitsOfShare_10 : decode cX3_bitsOfShare 10 = .ok (.ldc2_w 303, 3) := by decide +kernel
theorem dX3_bitsOfShare_13 : decode cX3_bitsOfShare 13 = .ok (.lstore 4, 2) := by decide +kernel
theorem dX3_bitsOfShare_15 : decode cX3_bitsOfShare 15 = .ok (.iconst 0, 1) := by decide +kernel
theorem dX3_bitsOfShare_16 : decode cX3_bitsOfShare 16 = .ok (.istore 6, 2) := by decide +kernel
theorem dX3_bitsOfShare_18 : decode cX3_bitsOfShare 18 = .ok (.iload 6, 2) := by decide +kernel
theorem dX3_bitsOfShare_20 : decode cX3_bitsOfShare 20 = .ok (.bipush 64, 2) := by decide +kernel
theorem dX3_bitsOfShare_22 : decode cX3_bitsOfShare 22 = .ok (.if_icmp .ge 27, 3) := by decide +kernel
theorem dX3_bitsOfShare_25 : decode cX3_bitsOfShare 25 = .ok (.dload_n 2, 1) := by decide +kernel
theorem dX3_bitsOfShare_26 : decode cX3_bitsOfShare 26 = .ok (.dconst 1, 1) := by decide +kernel
theorem dX3_bitsOfShare_27 : decode cX3_bitsOfShare 27 = .ok (.dcmp .g, 1) := by decide +kernel
theorem dX3_bitsOfShare_28 : decode cX3_bitsOfShare 28 = .ok (.ifCond .ge 21, 3) := by decide +kernel
theorem dX3_bitsOfShare_31 : decode cX3_bitsOfShare 31 = .ok (.dload_n 2, 1) := by decide +kernel
theorem dX3_bitsOfShare_32 : decode cX3_bitsOfShare 32 = .ok (.ldc2_w 305, 3) := by decide +kernel
theorem dX3_bitsOfShare_35 : decode cX3_bitsOfShare 35 = .ok (.dmul, 1) := by decide +kernel
theorem dX3_bitsOfShare_36 : decode cX3_bitsOfShare 36 = .ok (.dstore_n 2, 1) := by decide +kernel
theorem dX3_bitsOfShare_37 : decode cX3_bitsOfShare 37 = .ok (.lload 4, 2) := by decide +kernel
theorem dX3_bitsOfShare_39 : decode cX3_bitsOfShare 39 = .ok (.lconst 1, 1) := by decide +kernel
theorem dX3_bitsOfShare_40 : decode cX3_bitsOfShare 40 = .ok (.lsub, 1) := by decide +kernel
theorem dX3_bitsOfShare_41 : decode cX3_bitsOfShare 41 = .ok (.lstore 4, 2) := by decide +kernel
theorem dX3_bitsOfShare_43 : decode cX3_bitsOfShare 43 = .ok (.iinc 6 1, 3) := by decide +kernel
theorem dX3_bitsOfShare_46 : decode cX3_bitsOfShare 46 = .ok (.goto (-28), 3) := by decide +kernel
theorem dX3_bitsOfShare_49 : decode cX3_bitsOfShare 49 = .ok (.dload_n 2, 1) := by decide +kernel
theorem dX3_bitsOfShare_50 : decode cX3_bitsOfShare 50 = .ok (.dconst 1, 1) := by decide +kernel
theorem dX3_bitsOfShare_51 : decode cX3_bitsOfShare 51 = .ok (.dsub, 1) := by decide +kernel
theorem dX3_bitsOfShare_52 : decode cX3_bitsOfShare 52 = .ok (.ldc2_w 307, 3) := by decide +kernel
theorem dX3_bitsOfShare_55 : decode cX3_bitsOfShare 55 = .ok (.dmul, 1) := by decide +kernel
theorem dX3_bitsOfShare_56 : decode cX3_bitsOfShare 56 = .ok (.d2l, 1) := by decide +kernel
theorem dX3_bitsOfShare_57 : decode cX3_bitsOfShare 57 = .ok (.lstore 6, 2) := by decide +kernel
theorem dX3_bitsOfShare_59 : decode cX3_bitsOfShare 59 = .ok (.lload 4, 2) := by decide +kernel
theorem dX3_bitsOfShare_61 : decode cX3_bitsOfShare 61 = .ok (.bipush 52, 2) := by decide +kernel
theorem dX3_bitsOfShare_63 : decode cX3_bitsOfShare 63 = .ok (.lshl, 1) := by decide +kernel
theorem dX3_bitsOfShare_64 : decode cX3_bitsOfShare 64 = .ok (.lload 6, 2) := by decide +kernel
theorem dX3_bitsOfShare_66 : decode cX3_bitsOfShare 66 = .ok (.ladd, 1) := by decide +kernel
theorem dX3_bitsOfShare_67 : decode cX3_bitsOfShare 67 = .ok (.lreturn, 1) := by decide +kernel
