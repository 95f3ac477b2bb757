theorem dL_cell_0 : decode cL_cell 0 = .ok (.iload_n 1, 1) := by decide +kernel
theorem dL_cell_1 : decode cL_cell 1 = .ok (.aload_n 0, 1) := by decide +kernel
theorem dL_cell_2 : decode cL_cell 2 = .ok (.arraylength, 1) := by decide +kernel
theorem dL_cell_3 : decode cL_cell 3 = .ok (.if_icmp .ge 9, 3) := by decide +kernel
theorem dL_cell_6 : decode cL_cell 6 = .ok (.aload_n 0, 1) := by decide +kernel
theorem dL_cell_7 : decode cL_cell 7 = .ok (.iload_n 1, 1) := by decide +kernel
theorem dL_cell_8 : decode cL_cell 8 = .ok (.iaload, 1) := by decide +kernel
theorem dL_cell_9 : decode cL_cell 9 = .ok (.goto 9, 3) := by decide +kernel
theorem dL_cell_12 : decode cL_cell 12 = .ok (.ldc 7, 2) := by decide +kernel
theorem dL_cell_14 : decode cL_cell 14 = .ok (.iload_n 1, 1) := by decide +kernel
theorem dL_cell_15 : decode cL_cell 15 = .ok (.iconst 1, 1) := by decide +kernel
theorem dL_cell_16 : decode cL_cell 16 = .ok (.iadd, 1) := by decide +kernel
theorem dL_cell_17 : decode cL_cell 17 = .ok (.imul, 1) := by decide +kernel
theorem dL_cell_18 : decode cL_cell 18 = .ok (.ireturn, 1) := by decide +kernel
theorem dL_low_0 : decode cL_low 0 = .ok (.iload_n 0, 1) := by decide +kernel
theorem dL_low_1 : decode cL_low 1 = .ok (.ldc 8, 2) := by decide +kernel
theorem dL_low_3 : decode cL_low 3 = .ok (.iand, 1) := by decide +kernel
theorem dL_low_4 : decode cL_low 4 = .ok (.iload_n 1, 1) := by decide +kernel
theorem dL_low_5 : decode cL_low 5 = .ok (.irem, 1) := by decide +kernel
theorem dL_low_6 : decode cL_low 6 = .ok (.ireturn, 1) := by decide +kernel
theorem dL_is_0 : decode cL_is 0 = .ok (.iload_n 1, 1) := by decide +kernel
theorem dL_is_1 : decode cL_is 1 = .ok (.ifCond .lt 24, 3) := by decide +kernel
theorem dL_is_4 : decode cL_is 4 = .ok (.iload_n 1, 1) := by decide +kernel
theorem dL_is_5 : decode cL_is 5 = .ok (.bipush 16, 2) := by decide +kernel
theorem dL_is_7 : decode cL_is 7 = .ok (.if_icmp .ge 18, 3) := by decide +kernel
theorem dL_is_10 : decode cL_is 10 = .ok (.aload_n 0, 1) := by decide +kernel
theorem dL_is_11 : decode cL_is 11 = .ok (.iconst 0, 1) := by decide +kernel
theorem dL_is_12 : decode cL_is 12 = .ok (.iaload, 1) := by decide +kernel
theorem dL_is_13 : decode cL_is 13 = .ok (.iload_n 1, 1) := by decide +kernel
theorem dL_is_14 : decode cL_is 14 = .ok (.ishr, 1) := by decide +kernel
theorem dL_is_15 : decode cL_is 15 = .ok (.iconst 1, 1) := by decide +kernel
theorem dL_is_16 : decode cL_is 16 = .ok (.iand, 1) := by decide +kernel
theorem dL_is_17 : decode cL_is 17 = .ok (.iconst 1, 1) := by decide +kernel
theorem dL_is_18 : decode cL_is 18 = .ok (.if_icmp .ne 7, 3) := by decide +kernel
theorem dL_is_21 : decode cL_is 21 = .ok (.iconst 1, 1) := by decide +kernel
theorem dL_is_22 : decode cL_is 22 = .ok (.goto 4, 3) := by decide +kernel
theorem dL_is_25 : decode cL_is 25 = .ok (.iconst 0, 1) := by decide +kernel
theorem dL_is_26 : decode cL_is 26 = .ok (.ireturn, 1) := by decide +kernel
set_option maxRecDepth 20000 in
theorem ggL_sits_L_is : GoodIn wsL_sits wsL_is := goodIn_r _ [4] (by decide +kernel) (by decide +kernel)
set_option maxRecDepth 20000 in
theorem gL_sits_L_is : GoodIn wsL_sits (va_wsS RL 63 yL_is wsL_is) := goodIn_app (goodIn_of _ (by decide +kernel)) ggL_sits_L_is
theorem dL_sits_0 : decode cL_sits 0 = .ok (.iconst 0, 1) := by decide +kernel
theorem dL_sits_1 : decode cL_sits 1 = .ok (.istore_n 3, 1) := by decide +kernel
theorem dL_sits_2 : decode cL_sits 2 = .ok (.iload_n 3, 1) := by decide +kernel
theorem dL_sits_3 : decode cL_sits 3 = .ok (.bipush 16, 2) := by decide +kernel
theorem dL_sits_5 : decode cL_sits 5 = .ok (.if_icmp .ge 30, 3) := by decide +kernel
theorem dL_sits_8 : decode cL_sits 8 = .ok (.aload_n 0, 1) := by decide +kernel
theorem dL_sits_9 : decode cL_sits 9 = .ok (.iload_n 3, 1) := by decide +kernel
theorem dL_sits_10 : decode cL_sits 10 = .ok (.invokestatic 63, 3) := by decide +kernel
theorem dL_sits_13 : decode cL_sits 13 = .ok (.ifCond .eq 16, 3) := by decide +kernel
theorem dL_sits_16 : decode cL_sits 16 = .ok (.aload_n 1, 1) := by decide +kernel
theorem dL_sits_17 : decode cL_sits 17 = .ok (.iconst 4, 1) := by decide +kernel
theorem dL_sits_18 : decode cL_sits 18 = .ok (.iload_n 3, 1) := by decide +kernel
theorem dL_sits_19 : decode cL_sits 19 = .ok (.imul, 1) := by decide +kernel
theorem dL_sits_20 : decode cL_sits 20 = .ok (.iconst 2, 1) := by decide +kernel
theorem dL_sits_21 : decode cL_sits 21 = .ok (.iadd, 1) := by decide +kernel
theorem dL_sits_22 : decode cL_sits 22 = .ok (.iaload, 1) := by decide +kernel
theorem dL_sits_23 : decode cL_sits 23 = .ok (.iload_n 2, 1) := by decide +kernel
theorem dL_sits_24 : decode cL_sits 24 = .ok (.if_icmp .ne 5, 3) := by decide +kernel
theorem dL_sits_27 : decode cL_sits 27 = .ok (.iload_n 3, 1) := by decide +kernel
theorem dL_sits_28 : decode cL_sits 28 = .ok (.ireturn, 1) := by decide +kernel
theorem dL_sits_29 : decode cL_sits 29 = .ok (.iinc 3 1, 3) := by decide +kernel
theorem dL_sits_32 : decode cL_sits 32 = .ok (.goto (-30), 3) := by decide +kernel
theorem dL_sits_35 : decode cL_sits 35 = .ok (.iconst (-1), 1) := by decide +kernel
theorem dL_sits_36 : decode cL_sits 36 = .ok (.ireturn, 1) := by decide +kernel
set_option maxRecDepth 20000 in
theorem ggL_owner_L_is : GoodIn wsL_owner wsL_is := goodIn_r _ [4] (by decide +kernel) (by decide +kernel)
set_option maxRecDepth 20000 in
theorem gL_owner_L_is : GoodIn wsL_owner (va_wsS RL 63 yL_is wsL_is) := goodIn_app (goodIn_of _ (by decide +kernel)) ggL_owner_L_is
theorem dL_owner_0 : decode cL_owner 0 = .ok (.iconst 0, 1) := by decide +kernel
theorem dL_owner_1 : decode cL_owner 1 = .ok (.istore_n 3, 1) := by decide +kernel
theorem dL_owner_2 : decode cL_owner 2 = .ok (.iload_n 3, 1) := by decide +kernel
theorem dL_owner_3 : decode cL_owner 3 = .ok (.bipush 16, 2) := by decide +kernel
theorem dL_owner_5 : decode cL_owner 5 = .ok (.if_icmp .ge 28, 3) := by decide +kernel
theorem dL_owner_8 : decode cL_owner 8 = .ok (.aload_n 0, 1) := by decide +kernel
theorem dL_owner_9 : decode cL_owner 9 = .ok (.iload_n 3, 1) := by decide +kernel
theorem dL_owner_10 : decode cL_owner 10 = .ok (.invokestatic 63, 3) := by decide +kernel
theorem dL_owner_13 : decode cL_owner 13 = .ok (.ifCond .eq 14, 3) := by decide +kernel
theorem dL_owner_16 : decode cL_owner 16 = .ok (.aload_n 1, 1) := by decide +kernel
theorem dL_owner_17 : decode cL_owner 17 = .ok (.iconst 4, 1) := by decide +kernel
theorem dL_owner_18 : decode cL_owner 18 = .ok (.iload_n 3, 1) := by decide +kernel
theorem dL_owner_19 : decode cL_owner 19 = .ok (.imul, 1) := by decide +kernel
theorem dL_owner_20 : decode cL_owner 20 = .ok (.iaload, 1) := by decide +kernel
theorem dL_owner_21 : decode cL_owner 21 = .ok (.iload_n 2, 1) := by decide +kernel
theorem dL_owner_22 : decode cL_owner 22 = .ok (.if_icmp .ne 5, 3) := by decide +kernel
theorem dL_owner_25 : decode cL_owner 25 = .ok (.iload_n 3, 1) := by decide +kernel
theorem dL_owner_26 : decode cL_owner 26 = .ok (.ireturn, 1) := by decide +kernel
theorem dL_owner_27 : decode cL_owner 27 = .ok (.iinc 3 1, 3) := by decide +kernel
theorem dL_owner_30 : decode cL_owner 30 = .ok (.goto (-28), 3) := by decide +kernel
theorem dL_owner_33 : decode cL_owner 33 = .ok (.iconst (-1), 1) := by decide +kernel
theorem dL_owner_34 : decode cL_owner 34 = .ok (.ireturn, 1) := by decide +kernel
set_option maxRecDepth 20000 in
theorem ggL_free_L_is : GoodIn wsL_free wsL_is := goodIn_r _ [5] (by decide +kernel) (by decide +kernel)
set_option maxRecDepth 20000 in
theorem gL_free_L_is : GoodIn wsL_free (va_wsS RL 63 yL_is wsL_is) := goodIn_app (goodIn_of _ (by decide +kernel)) ggL_free_L_is
theorem dL_free_0 : decode cL_free 0 = .ok (.ldc 69, 2) := by decide +kernel
theorem dL_free_2 : decode cL_free 2 = .ok (.aload_n 0, 1) := by decide +kernel
theorem dL_free_3 : decode cL_free 3 = .ok (.iconst 1, 1) := by decide +kernel
theorem dL_free_4 : decode cL_free 4 = .ok (.iaload, 1) := by decide +kernel
theorem dL_free_5 : decode cL_free 5 = .ok (.iconst (-1), 1) := by decide +kernel
theorem dL_free_6 : decode cL_free 6 = .ok (.ixor, 1) := by decide +kernel
theorem dL_free_7 : decode cL_free 7 = .ok (.iand, 1) := by decide +kernel
theorem dL_free_8 : decode cL_free 8 = .ok (.istore_n 2, 1) := by decide +kernel
theorem dL_free_9 : decode cL_free 9 = .ok (.iconst 0, 1) := by decide +kernel
theorem dL_free_10 : decode cL_free 10 = .ok (.istore_n 3, 1) := by decide +kernel
theorem dL_free_11 : decode cL_free 11 = .ok (.iload_n 3, 1) := by decide +kernel
theorem dL_free_12 : decode cL_free 12 = .ok (.bipush 16, 2) := by decide +kernel
theorem dL_free_14 : decode cL_free 14 = .ok (.if_icmp .ge 57, 3) := by decide +kernel
theorem dL_free_17 : decode cL_free 17 = .ok (.iload_n 2, 1) := by decide +kernel
theorem dL_free_18 : decode cL_free 18 = .ok (.aload_n 0, 1) := by decide +kernel
theorem dL_free_19 : decode cL_free 19 = .ok (.iload_n 3, 1) := by decide +kernel
theorem dL_free_20 : decode cL_free 20 = .ok (.invokestatic 63, 3) := by decide +kernel
theorem dL_free_23 : decode cL_free 23 = .ok (.ifCond .eq 39, 3) := by decide +kernel
theorem dL_free_26 : decode cL_free 26 = .ok (.aload_n 1, 1) := by decide +kernel
theorem dL_free_27 : decode cL_free 27 = .ok (.iconst 4, 1) := by decide +kernel
theorem dL_free_28 : decode cL_free 28 = .ok (.iload_n 3, 1) := by decide +kernel
theorem dL_free_29 : decode cL_free 29 = .ok (.imul, 1) := by decide +kernel
theorem dL_free_30 : decode cL_free 30 = .ok (.iconst 2, 1) := by decide +kernel
theorem dL_free_31 : decode cL_free 31 = .ok (.iadd, 1) := by decide +kernel
theorem dL_free_32 : decode cL_free 32 = .ok (.iaload, 1) := by decide +kernel
theorem dL_free_33 : decode cL_free 33 = .ok (.ifCond .lt 29, 3) := by decide +kernel
theorem dL_free_36 : decode cL_free 36 = .ok (.aload_n 1, 1) := by decide +kernel
theorem dL_free_37 : decode cL_free 37 = .ok (.iconst 4, 1) := by decide +kernel
theorem dL_free_38 : decode cL_free 38 = .ok (.iload_n 3, 1) := by decide +kernel
theorem dL_free_39 : decode cL_free 39 = .ok (.imul, 1) := by decide +kernel
theorem dL_free_40 : decode cL_free 40 = .ok (.iconst 2, 1) := by decide +kernel
theorem dL_free_41 : decode cL_free 41 = .ok (.iadd, 1) := by decide +kernel
theorem dL_free_42 : decode cL_free 42 = .ok (.iaload, 1) := by decide +kernel
theorem dL_free_43 : decode cL_free 43 = .ok (.bipush 24, 2) := by decide +kernel
theorem dL_free_45 : decode cL_free 45 = .ok (.if_icmp .ge 17, 3) := by decide +kernel
theorem dL_free_48 : decode cL_free 48 = .ok (.iconst 1, 1) := by decide +kernel
theorem dL_free_49 : decode cL_free 49 = .ok (.aload_n 1, 1) := by decide +kernel
theorem dL_free_50 : decode cL_free 50 = .ok (.iconst 4, 1) := by decide +kernel
theorem dL_free_51 : decode cL_free 51 = .ok (.iload_n 3, 1) := by decide +kernel
theorem dL_free_52 : decode cL_free 52 = .ok (.imul, 1) := by decide +kernel
theorem dL_free_53 : decode cL_free 53 = .ok (.iconst 2, 1) := by decide +kernel
theorem dL_free_54 : decode cL_free 54 = .ok (.iadd, 1) := by decide +kernel
theorem dL_free_55 : decode cL_free 55 = .ok (.iaload, 1) := by decide +kernel
theorem dL_free_56 : decode cL_free 56 = .ok (.ishl, 1) := by decide +kernel
theorem dL_free_57 : decode cL_free 57 = .ok (.iconst (-1), 1) := by decide +kernel
theorem dL_free_58 : decode cL_free 58 = .ok (.ixor, 1) := by decide +kernel
theorem dL_free_59 : decode cL_free 59 = .ok (.goto 4, 3) := by decide +kernel
theorem dL_free_62 : decode cL_free 62 = .ok (.iconst (-1), 1) := by decide +kernel
theorem dL_free_63 : decode cL_free 63 = .ok (.iand, 1) := by decide +kernel
theorem dL_free_64 : decode cL_free 64 = .ok (.istore_n 2, 1) := by decide +kernel
theorem dL_free_65 : decode cL_free 65 = .ok (.iinc 3 1, 3) := by decide +kernel
theorem dL_free_68 : decode cL_free 68 = .ok (.goto (-57), 3) := by decide +kernel
theorem dL_free_71 : decode cL_free 71 = .ok (.iload_n 2, 1) := by decide +kernel
theorem dL_free_72 : decode cL_free 72 = .ok (.ireturn, 1) := by decide +kernel
set_option maxRecDepth 20000 in
theorem ggL_look_L_free : GoodIn wsL_look wsL_free := goodIn_r _ [4, 5, 6, 7, 3, 8] (by decide +kernel) (by decide +kernel)
set_option maxRecDepth 20000 in
theorem gL_look_L_free : GoodIn wsL_look (va_wsS RL 70 yL_free wsL_free) := goodIn_app (goodIn_of _ (by decide +kernel)) ggL_look_L_free
theorem dL_look_0 : decode cL_look 0 = .ok (.aload_n 0, 1) := by decide +kernel
theorem dL_look_1 : decode cL_look 1 = .ok (.aload_n 1, 1) := by decide +kernel
theorem dL_look_2 : decode cL_look 2 = .ok (.invokestatic 70, 3) := by decide +kernel
theorem dL_look_5 : decode cL_look 5 = .ok (.istore_n 3, 1) := by decide +kernel
theorem dL_look_6 : decode cL_look 6 = .ok (.aload_n 1, 1) := by decide +kernel
theorem dL_look_7 : decode cL_look 7 = .ok (.iconst 4, 1) := by decide +kernel
theorem dL_look_8 : decode cL_look 8 = .ok (.iload_n 2, 1) := by decide +kernel
theorem dL_look_9 : decode cL_look 9 = .ok (.imul, 1) := by decide +kernel
theorem dL_look_10 : decode cL_look 10 = .ok (.iconst 3, 1) := by decide +kernel
theorem dL_look_11 : decode cL_look 11 = .ok (.iadd, 1) := by decide +kernel
theorem dL_look_12 : decode cL_look 12 = .ok (.iaload, 1) := by decide +kernel
theorem dL_look_13 : decode cL_look 13 = .ok (.istore 4, 2) := by decide +kernel
theorem dL_look_15 : decode cL_look 15 = .ok (.iload 4, 2) := by decide +kernel
theorem dL_look_17 : decode cL_look 17 = .ok (.ifCond .ge 7, 3) := by decide +kernel
theorem dL_look_20 : decode cL_look 20 = .ok (.iconst (-1), 1) := by decide +kernel
theorem dL_look_21 : decode cL_look 21 = .ok (.goto 11, 3) := by decide +kernel
theorem dL_look_24 : decode cL_look 24 = .ok (.aload_n 1, 1) := by decide +kernel
theorem dL_look_25 : decode cL_look 25 = .ok (.iconst 4, 1) := by decide +kernel
theorem dL_look_26 : decode cL_look 26 = .ok (.iload 4, 2) := by decide +kernel
theorem dL_look_28 : decode cL_look 28 = .ok (.imul, 1) := by decide +kernel
theorem dL_look_29 : decode cL_look 29 = .ok (.iconst 2, 1) := by decide +kernel
theorem dL_look_30 : decode cL_look 30 = .ok (.iadd, 1) := by decide +kernel
theorem dL_look_31 : decode cL_look 31 = .ok (.iaload, 1) := by decide +kernel
theorem dL_look_32 : decode cL_look 32 = .ok (.istore 5, 2) := by decide +kernel
theorem dL_look_34 : decode cL_look 34 = .ok (.iload 5, 2) := by decide +kernel
theorem dL_look_36 : decode cL_look 36 = .ok (.ifCond .lt 55, 3) := by decide +kernel
theorem dL_look_39 : decode cL_look 39 = .ok (.iload 5, 2) := by decide +kernel
theorem dL_look_41 : decode cL_look 41 = .ok (.bipush 24, 2) := by decide +kernel
theorem dL_look_43 : decode cL_look 43 = .ok (.if_icmp .ge 48, 3) := by decide +kernel
theorem dL_look_46 : decode cL_look 46 = .ok (.iconst 0, 1) := by decide +kernel
theorem dL_look_47 : decode cL_look 47 = .ok (.istore 6, 2) := by decide +kernel
theorem dL_look_49 : decode cL_look 49 = .ok (.iload 6, 2) := by decide +kernel
theorem dL_look_51 : decode cL_look 51 = .ok (.bipush 24, 2) := by decide +kernel
theorem dL_look_53 : decode cL_look 53 = .ok (.if_icmp .ge 38, 3) := by decide +kernel
theorem dL_look_56 : decode cL_look 56 = .ok (.iload 6, 2) := by decide +kernel
theorem dL_look_58 : decode cL_look 58 = .ok (.iload 5, 2) := by decide +kernel
theorem dL_look_60 : decode cL_look 60 = .ok (.isub, 1) := by decide +kernel
theorem dL_look_61 : decode cL_look 61 = .ok (.istore 7, 2) := by decide +kernel
theorem dL_look_63 : decode cL_look 63 = .ok (.iload 7, 2) := by decide +kernel
theorem dL_look_65 : decode cL_look 65 = .ok (.iload 7, 2) := by decide +kernel
theorem dL_look_67 : decode cL_look 67 = .ok (.imul, 1) := by decide +kernel
theorem dL_look_68 : decode cL_look 68 = .ok (.iconst 1, 1) := by decide +kernel
theorem dL_look_69 : decode cL_look 69 = .ok (.if_icmp .ne 16, 3) := by decide +kernel
theorem dL_look_72 : decode cL_look 72 = .ok (.iload_n 3, 1) := by decide +kernel
theorem dL_look_73 : decode cL_look 73 = .ok (.iload 6, 2) := by decide +kernel
theorem dL_look_75 : decode cL_look 75 = .ok (.ishr, 1) := by decide +kernel
theorem dL_look_76 : decode cL_look 76 = .ok (.iconst 1, 1) := by decide +kernel
theorem dL_look_77 : decode cL_look 77 = .ok (.iand, 1) := by decide +kernel
theorem dL_look_78 : decode cL_look 78 = .ok (.iconst 1, 1) := by decide +kernel
theorem dL_look_79 : decode cL_look 79 = .ok (.if_icmp .ne 6, 3) := by decide +kernel
theorem dL_look_82 : decode cL_look 82 = .ok (.iload 6, 2) := by decide +kernel
theorem dL_look_84 : decode cL_look 84 = .ok (.ireturn, 1) := by decide +kernel
theorem dL_look_85 : decode cL_look 85 = .ok (.iinc 6 1, 3) := by decide +kernel
theorem dL_look_88 : decode cL_look 88 = .ok (.goto (-39), 3) := by decide +kernel
theorem dL_look_91 : decode cL_look 91 = .ok (.aload_n 1, 1) := by decide +kernel
theorem dL_look_92 : decode cL_look 92 = .ok (.iconst 4, 1) := by decide +kernel
theorem dL_look_93 : decode cL_look 93 = .ok (.iload_n 2, 1) := by decide +kernel
theorem dL_look_94 : decode cL_look 94 = .ok (.imul, 1) := by decide +kernel
theorem dL_look_95 : decode cL_look 95 = .ok (.iaload, 1) := by decide +kernel
theorem dL_look_96 : decode cL_look 96 = .ok (.istore 6, 2) := by decide +kernel
theorem dL_look_98 : decode cL_look 98 = .ok (.iconst 0, 1) := by decide +kernel
theorem dL_look_99 : decode cL_look 99 = .ok (.istore 7, 2) := by decide +kernel
theorem dL_look_101 : decode cL_look 101 = .ok (.iload 7, 2) := by decide +kernel
theorem dL_look_103 : decode cL_look 103 = .ok (.bipush 24, 2) := by decide +kernel
theorem dL_look_105 : decode cL_look 105 = .ok (.if_icmp .ge 39, 3) := by decide +kernel
theorem dL_look_108 : decode cL_look 108 = .ok (.iload_n 3, 1) := by decide +kernel
theorem dL_look_109 : decode cL_look 109 = .ok (.iload 6, 2) := by decide +kernel
theorem dL_look_111 : decode cL_look 111 = .ok (.ishr, 1) := by decide +kernel
theorem dL_look_112 : decode cL_look 112 = .ok (.iconst 1, 1) := by decide +kernel
theorem dL_look_113 : decode cL_look 113 = .ok (.iand, 1) := by decide +kernel
theorem dL_look_114 : decode cL_look 114 = .ok (.iconst 1, 1) := by decide +kernel
theorem dL_look_115 : decode cL_look 115 = .ok (.if_icmp .ne 6, 3) := by decide +kernel
theorem dL_look_118 : decode cL_look 118 = .ok (.iload 6, 2) := by decide +kernel
theorem dL_look_120 : decode cL_look 120 = .ok (.ireturn, 1) := by decide +kernel
theorem dL_look_121 : decode cL_look 121 = .ok (.iload 6, 2) := by decide +kernel
theorem dL_look_123 : decode cL_look 123 = .ok (.bipush 23, 2) := by decide +kernel
theorem dL_look_125 : decode cL_look 125 = .ok (.if_icmp .ne 7, 3) := by decide +kernel
theorem dL_look_128 : decode cL_look 128 = .ok (.iconst 0, 1) := by decide +kernel
theorem dL_look_129 : decode cL_look 129 = .ok (.goto 7, 3) := by decide +kernel
theorem dL_look_132 : decode cL_look 132 = .ok (.iload 6, 2) := by decide +kernel
theorem dL_look_134 : decode cL_look 134 = .ok (.iconst 1, 1) := by decide +kernel
theorem dL_look_135 : decode cL_look 135 = .ok (.iadd, 1) := by decide +kernel
theorem dL_look_136 : decode cL_look 136 = .ok (.istore 6, 2) := by decide +kernel
theorem dL_look_138 : decode cL_look 138 = .ok (.iinc 7 1, 3) := by decide +kernel
theorem dL_look_141 : decode cL_look 141 = .ok (.goto (-40), 3) := by decide +kernel
theorem dL_look_144 : decode cL_look 144 = .ok (.iconst (-1), 1) := by decide +kernel
theorem dL_look_145 : decode cL_look 145 = .ok (.ireturn, 1) := by decide +kernel
theorem dL_sit_0 : decode cL_sit 0 = .ok (.aload_n 1, 1) := by decide +kernel
theorem dL_sit_1 : decode cL_sit 1 = .ok (.iconst 4, 1) := by decide +kernel
theorem dL_sit_2 : decode cL_sit 2 = .ok (.iload_n 3, 1) := by decide +kernel
theorem dL_sit_3 : decode cL_sit 3 = .ok (.imul, 1) := by decide +kernel
theorem dL_sit_4 : decode cL_sit 4 = .ok (.iconst 2, 1) := by decide +kernel
theorem dL_sit_5 : decode cL_sit 5 = .ok (.iadd, 1) := by decide +kernel
theorem dL_sit_6 : decode cL_sit 6 = .ok (.iload 4, 2) := by decide +kernel
theorem dL_sit_8 : decode cL_sit 8 = .ok (.iastore, 1) := by decide +kernel
theorem dL_sit_9 : decode cL_sit 9 = .ok (.aload_n 2, 1) := by decide +kernel
theorem dL_sit_10 : decode cL_sit 10 = .ok (.aload_n 0, 1) := by decide +kernel
theorem dL_sit_11 : decode cL_sit 11 = .ok (.bipush 12, 2) := by decide +kernel
theorem dL_sit_13 : decode cL_sit 13 = .ok (.iaload, 1) := by decide +kernel
theorem dL_sit_14 : decode cL_sit 14 = .ok (.bipush 32, 2) := by decide +kernel
theorem dL_sit_16 : decode cL_sit 16 = .ok (.iload_n 3, 1) := by decide +kernel
theorem dL_sit_17 : decode cL_sit 17 = .ok (.imul, 1) := by decide +kernel
theorem dL_sit_18 : decode cL_sit 18 = .ok (.iload 4, 2) := by decide +kernel
theorem dL_sit_20 : decode cL_sit 20 = .ok (.iadd, 1) := by decide +kernel
theorem dL_sit_21 : decode cL_sit 21 = .ok (.iastore, 1) := by decide +kernel
theorem dL_sit_22 : decode cL_sit 22 = .ok (.aload_n 0, 1) := by decide +kernel
theorem dL_sit_23 : decode cL_sit 23 = .ok (.bipush 12, 2) := by decide +kernel
theorem dL_sit_25 : decode cL_sit 25 = .ok (.dup2, 1) := by decide +kernel
theorem dL_sit_26 : decode cL_sit 26 = .ok (.iaload, 1) := by decide +kernel
theorem dL_sit_27 : decode cL_sit 27 = .ok (.iconst 1, 1) := by decide +kernel
theorem dL_sit_28 : decode cL_sit 28 = .ok (.iadd, 1) := by decide +kernel
theorem dL_sit_29 : decode cL_sit 29 = .ok (.iastore, 1) := by decide +kernel
theorem dL_sit_30 : decode cL_sit 30 = .ok (.return_, 1) := by decide +kernel
theorem dL_shift_0 : decode cL_shift 0 = .ok (.aload_n 1, 1) := by decide +kernel
theorem dL_shift_1 : decode cL_shift 1 = .ok (.iconst 4, 1) := by decide +kernel
theorem dL_shift_2 : decode cL_shift 2 = .ok (.iload 4, 2) := by decide +kernel
theorem dL_shift_4 : decode cL_shift 4 = .ok (.imul, 1) := by decide +kernel
theorem dL_shift_5 : decode cL_shift 5 = .ok (.iconst 2, 1) := by decide +kernel
theorem dL_shift_6 : decode cL_shift 6 = .ok (.iadd, 1) := by decide +kernel
theorem dL_shift_7 : decode cL_shift 7 = .ok (.iconst (-1), 1) := by decide +kernel
theorem dL_shift_8 : decode cL_shift 8 = .ok (.iastore, 1) := by decide +kernel
theorem dL_shift_9 : decode cL_shift 9 = .ok (.aload_n 2, 1) := by decide +kernel
theorem dL_shift_10 : decode cL_shift 10 = .ok (.iconst 4, 1) := by decide +kernel
theorem dL_shift_11 : decode cL_shift 11 = .ok (.iload 4, 2) := by decide +kernel
theorem dL_shift_13 : decode cL_shift 13 = .ok (.imul, 1) := by decide +kernel
theorem dL_shift_14 : decode cL_shift 14 = .ok (.iconst 1, 1) := by decide +kernel
theorem dL_shift_15 : decode cL_shift 15 = .ok (.iadd, 1) := by decide +kernel
theorem dL_shift_16 : decode cL_shift 16 = .ok (.dup2, 1) := by decide +kernel
theorem dL_shift_17 : decode cL_shift 17 = .ok (.iaload, 1) := by decide +kernel
theorem dL_shift_18 : decode cL_shift 18 = .ok (.iconst 1, 1) := by decide +kernel
theorem dL_shift_19 : decode cL_shift 19 = .ok (.iadd, 1) := by decide +kernel
theorem dL_shift_20 : decode cL_shift 20 = .ok (.iastore, 1) := by decide +kernel
theorem dL_shift_21 : decode cL_shift 21 = .ok (.aload_n 0, 1) := by decide +kernel
theorem dL_shift_22 : decode cL_shift 22 = .ok (.bipush 6, 2) := by decide +kernel
theorem dL_shift_24 : decode cL_shift 24 = .ok (.dup2, 1) := by decide +kernel
theorem dL_shift_25 : decode cL_shift 25 = .ok (.iaload, 1) := by decide +kernel
theorem dL_shift_26 : decode cL_shift 26 = .ok (.iconst 1, 1) := by decide +kernel
theorem dL_shift_27 : decode cL_shift 27 = .ok (.iadd, 1) := by decide +kernel
theorem dL_shift_28 : decode cL_shift 28 = .ok (.iastore, 1) := by decide +kernel
theorem dL_shift_29 : decode cL_shift 29 = .ok (.aload_n 0, 1) := by decide +kernel
theorem dL_shift_30 : decode cL_shift 30 = .ok (.bipush 7, 2) := by decide +kernel
theorem dL_shift_32 : decode cL_shift 32 = .ok (.dup2, 1) := by decide +kernel
theorem dL_shift_33 : decode cL_shift 33 = .ok (.iaload, 1) := by decide +kernel
theorem dL_shift_34 : decode cL_shift 34 = .ok (.aload_n 1, 1) := by decide +kernel
theorem dL_shift_35 : decode cL_shift 35 = .ok (.iconst 4, 1) := by decide +kernel
theorem dL_shift_36 : decode cL_shift 36 = .ok (.iload_n 3, 1) := by decide +kernel
theorem dL_shift_37 : decode cL_shift 37 = .ok (.imul, 1) := by decide +kernel
theorem dL_shift_38 : decode cL_shift 38 = .ok (.iconst 3, 1) := by decide +kernel
theorem dL_shift_39 : decode cL_shift 39 = .ok (.iadd, 1) := by decide +kernel
theorem dL_shift_40 : decode cL_shift 40 = .ok (.iaload, 1) := by decide +kernel
theorem dL_shift_41 : decode cL_shift 41 = .ok (.iload 4, 2) := by decide +kernel
theorem dL_shift_43 : decode cL_shift 43 = .ok (.if_icmp .ne 7, 3) := by decide +kernel
theorem dL_shift_46 : decode cL_shift 46 = .ok (.iconst 0, 1) := by decide +kernel
theorem dL_shift_47 : decode cL_shift 47 = .ok (.goto 4, 3) := by decide +kernel
theorem dL_shift_50 : decode cL_shift 50 = .ok (.iconst 1, 1) := by decide +kernel
theorem dL_shift_51 : decode cL_shift 51 = .ok (.iadd, 1) := by decide +kernel
theorem dL_shift_52 : decode cL_shift 52 = .ok (.iastore, 1) := by decide +kernel
theorem dL_shift_53 : decode cL_shift 53 = .ok (.return_, 1) := by decide +kernel
set_option maxRecDepth 20000 in
theorem ggL_comes_L_sits : GoodIn wsL_comes wsL_sits := goodIn_r _ [4, 5, 6, 3, 7] (by decide +kernel) (by decide +kernel)
set_option maxRecDepth 20000 in
theorem gL_comes_L_sits : GoodIn wsL_comes (va_wsS RL 74 yL_sits wsL_sits) := goodIn_app (goodIn_of _ (by decide +kernel)) ggL_comes_L_sits
set_option maxRecDepth 20000 in
theorem ggL_comes_L_shift : GoodIn wsL_comes wsL_shift := goodIn_r _ [10] (by decide +kernel) (by decide +kernel)
set_option maxRecDepth 20000 in
theorem gL_comes_L_shift : GoodIn wsL_comes (va_wsS RL 78 yL_shift wsL_shift) := goodIn_app (goodIn_of _ (by decide +kernel)) ggL_comes_L_shift
set_option maxRecDepth 20000 in
theorem ggL_comes_L_sit : GoodIn wsL_comes wsL_sit := goodIn_r _ [13] (by decide +kernel) (by decide +kernel)
set_option maxRecDepth 20000 in
theorem gL_comes_L_sit : GoodIn wsL_comes (va_wsS RL 82 yL_sit wsL_sit) := goodIn_app (goodIn_of _ (by decide +kernel)) ggL_comes_L_sit
set_option maxRecDepth 20000 in
theorem ggL_comes_L_look : GoodIn wsL_comes wsL_look := goodIn_r _ [16, 17, 18, 3, 19, 20, 5, 6, 7] (by decide +kernel) (by decide +kernel)
set_option maxRecDepth 20000 in
theorem gL_comes_L_look : GoodIn wsL_comes (va_wsS RL 85 yL_look wsL_look) := goodIn_app (goodIn_of _ (by decide +kernel)) ggL_comes_L_look
theorem dL_comes_0 : decode cL_comes 0 = .ok (.aload_n 0, 1) := by decide +kernel
theorem dL_comes_1 : decode cL_comes 1 = .ok (.bipush 6, 2) := by decide +kernel
theorem dL_comes_3 : decode cL_comes 3 = .ok (.iaload, 1) := by decide +kernel
theorem dL_comes_4 : decode cL_comes 4 = .ok (.istore 6, 2) := by decide +kernel
theorem dL_comes_6 : decode cL_comes 6 = .ok (.iload 4, 2) := by decide +kernel
theorem dL_comes_8 : decode cL_comes 8 = .ok (.istore 7, 2) := by decide +kernel
theorem dL_comes_10 : decode cL_comes 10 = .ok (.aload_n 0, 1) := by decide +kernel
theorem dL_comes_11 : decode cL_comes 11 = .ok (.iconst 2, 1) := by decide +kernel
theorem dL_comes_12 : decode cL_comes 12 = .ok (.iload 5, 2) := by decide +kernel
theorem dL_comes_14 : decode cL_comes 14 = .ok (.iastore, 1) := by decide +kernel
theorem dL_comes_15 : decode cL_comes 15 = .ok (.aload_n 0, 1) := by decide +kernel
theorem dL_comes_16 : decode cL_comes 16 = .ok (.bipush 12, 2) := by decide +kernel
theorem dL_comes_18 : decode cL_comes 18 = .ok (.iconst 0, 1) := by decide +kernel
theorem dL_comes_19 : decode cL_comes 19 = .ok (.iastore, 1) := by decide +kernel
theorem dL_comes_20 : decode cL_comes 20 = .ok (.aload_n 2, 1) := by decide +kernel
theorem dL_comes_21 : decode cL_comes 21 = .ok (.iconst 4, 1) := by decide +kernel
theorem dL_comes_22 : decode cL_comes 22 = .ok (.iload 4, 2) := by decide +kernel
theorem dL_comes_24 : decode cL_comes 24 = .ok (.imul, 1) := by decide +kernel
theorem dL_comes_25 : decode cL_comes 25 = .ok (.dup2, 1) := by decide +kernel
theorem dL_comes_26 : decode cL_comes 26 = .ok (.iaload, 1) := by decide +kernel
theorem dL_comes_27 : decode cL_comes 27 = .ok (.iload 5, 2) := by decide +kernel
theorem dL_comes_29 : decode cL_comes 29 = .ok (.aload_n 0, 1) := by decide +kernel
theorem dL_comes_30 : decode cL_comes 30 = .ok (.iconst 4, 1) := by decide +kernel
theorem dL_comes_31 : decode cL_comes 31 = .ok (.iaload, 1) := by decide +kernel
theorem dL_comes_32 : decode cL_comes 32 = .ok (.if_icmp .le 7, 3) := by decide +kernel
theorem dL_comes_35 : decode cL_comes 35 = .ok (.iconst 1, 1) := by decide +kernel
theorem dL_comes_36 : decode cL_comes 36 = .ok (.goto 4, 3) := by decide +kernel
theorem dL_comes_39 : decode cL_comes 39 = .ok (.iconst 0, 1) := by decide +kernel
theorem dL_comes_40 : decode cL_comes 40 = .ok (.iadd, 1) := by decide +kernel
theorem dL_comes_41 : decode cL_comes 41 = .ok (.iastore, 1) := by decide +kernel
theorem dL_comes_42 : decode cL_comes 42 = .ok (.iload 5, 2) := by decide +kernel
theorem dL_comes_44 : decode cL_comes 44 = .ok (.aload_n 0, 1) := by decide +kernel
theorem dL_comes_45 : decode cL_comes 45 = .ok (.iconst 4, 1) := by decide +kernel
theorem dL_comes_46 : decode cL_comes 46 = .ok (.iaload, 1) := by decide +kernel
theorem dL_comes_47 : decode cL_comes 47 = .ok (.if_icmp .gt 100, 3) := by decide +kernel
theorem dL_comes_50 : decode cL_comes 50 = .ok (.aload_n 0, 1) := by decide +kernel
theorem dL_comes_51 : decode cL_comes 51 = .ok (.iconst 1, 1) := by decide +kernel
theorem dL_comes_52 : decode cL_comes 52 = .ok (.iaload, 1) := by decide +kernel
theorem dL_comes_53 : decode cL_comes 53 = .ok (.aload_n 1, 1) := by decide +kernel
theorem dL_comes_54 : decode cL_comes 54 = .ok (.iconst 4, 1) := by decide +kernel
theorem dL_comes_55 : decode cL_comes 55 = .ok (.iload 4, 2) := by decide +kernel
theorem dL_comes_57 : decode cL_comes 57 = .ok (.imul, 1) := by decide +kernel
theorem dL_comes_58 : decode cL_comes 58 = .ok (.iaload, 1) := by decide +kernel
theorem dL_comes_59 : decode cL_comes 59 = .ok (.ishr, 1) := by decide +kernel
theorem dL_comes_60 : decode cL_comes 60 = .ok (.iconst 1, 1) := by decide +kernel
theorem dL_comes_61 : decode cL_comes 61 = .ok (.iand, 1) := by decide +kernel
theorem dL_comes_62 : decode cL_comes 62 = .ok (.ifCond .ne 85, 3) := by decide +kernel
theorem dL_comes_65 : decode cL_comes 65 = .ok (.aload_n 0, 1) := by decide +kernel
theorem dL_comes_66 : decode cL_comes 66 = .ok (.aload_n 1, 1) := by decide +kernel
theorem dL_comes_67 : decode cL_comes 67 = .ok (.aload_n 1, 1) := by decide +kernel
theorem dL_comes_68 : decode cL_comes 68 = .ok (.iconst 4, 1) := by decide +kernel
theorem dL_comes_69 : decode cL_comes 69 = .ok (.iload 4, 2) := by decide +kernel
theorem dL_comes_71 : decode cL_comes 71 = .ok (.imul, 1) := by decide +kernel
theorem dL_comes_72 : decode cL_comes 72 = .ok (.iaload, 1) := by decide +kernel
theorem dL_comes_73 : decode cL_comes 73 = .ok (.invokestatic 74, 3) := by decide +kernel
theorem dL_comes_76 : decode cL_comes 76 = .ok (.istore 8, 2) := by decide +kernel
theorem dL_comes_78 : decode cL_comes 78 = .ok (.iload 8, 2) := by decide +kernel
theorem dL_comes_80 : decode cL_comes 80 = .ok (.ifCond .lt 19, 3) := by decide +kernel
theorem dL_comes_83 : decode cL_comes 83 = .ok (.aload_n 0, 1) := by decide +kernel
theorem dL_comes_84 : decode cL_comes 84 = .ok (.iconst 5, 1) := by decide +kernel
theorem dL_comes_85 : decode cL_comes 85 = .ok (.iaload, 1) := by decide +kernel
theorem dL_comes_86 : decode cL_comes 86 = .ok (.ifCond .ne 13, 3) := by decide +kernel
theorem dL_comes_89 : decode cL_comes 89 = .ok (.aload_n 1, 1) := by decide +kernel
theorem dL_comes_90 : decode cL_comes 90 = .ok (.iconst 4, 1) := by decide +kernel
theorem dL_comes_91 : decode cL_comes 91 = .ok (.iload 8, 2) := by decide +kernel
theorem dL_comes_93 : decode cL_comes 93 = .ok (.imul, 1) := by decide +kernel
theorem dL_comes_94 : decode cL_comes 94 = .ok (.iconst 2, 1) := by decide +kernel
theorem dL_comes_95 : decode cL_comes 95 = .ok (.iadd, 1) := by decide +kernel
theorem dL_comes_96 : decode cL_comes 96 = .ok (.bipush 24, 2) := by decide +kernel
theorem dL_comes_98 : decode cL_comes 98 = .ok (.iastore, 1) := by decide +kernel
theorem dL_comes_99 : decode cL_comes 99 = .ok (.iload 8, 2) := by decide +kernel
theorem dL_comes_101 : decode cL_comes 101 = .ok (.ifCond .lt 14, 3) := by decide +kernel
theorem dL_comes_104 : decode cL_comes 104 = .ok (.aload_n 0, 1) := by decide +kernel
theorem dL_comes_105 : decode cL_comes 105 = .ok (.iconst 5, 1) := by decide +kernel
theorem dL_comes_106 : decode cL_comes 106 = .ok (.iaload, 1) := by decide +kernel
theorem dL_comes_107 : decode cL_comes 107 = .ok (.ifCond .le 8, 3) := by decide +kernel
theorem dL_comes_110 : decode cL_comes 110 = .ok (.iload 8, 2) := by decide +kernel
theorem dL_comes_112 : decode cL_comes 112 = .ok (.goto 4, 3) := by decide +kernel
theorem dL_comes_115 : decode cL_comes 115 = .ok (.iconst (-1), 1) := by decide +kernel
theorem dL_comes_116 : decode cL_comes 116 = .ok (.istore 7, 2) := by decide +kernel
theorem dL_comes_118 : decode cL_comes 118 = .ok (.iload 7, 2) := by decide +kernel
theorem dL_comes_120 : decode cL_comes 120 = .ok (.ifCond .lt 13, 3) := by decide +kernel
theorem dL_comes_123 : decode cL_comes 123 = .ok (.aload_n 0, 1) := by decide +kernel
theorem dL_comes_124 : decode cL_comes 124 = .ok (.aload_n 1, 1) := by decide +kernel
theorem dL_comes_125 : decode cL_comes 125 = .ok (.aload_n 2, 1) := by decide +kernel
theorem dL_comes_126 : decode cL_comes 126 = .ok (.iload 4, 2) := by decide +kernel
theorem dL_comes_128 : decode cL_comes 128 = .ok (.iload 8, 2) := by decide +kernel
theorem dL_comes_130 : decode cL_comes 130 = .ok (.invokestatic 78, 3) := by decide +kernel
theorem dL_comes_133 : decode cL_comes 133 = .ok (.aload_n 0, 1) := by decide +kernel
theorem dL_comes_134 : decode cL_comes 134 = .ok (.aload_n 1, 1) := by decide +kernel
theorem dL_comes_135 : decode cL_comes 135 = .ok (.aload_n 3, 1) := by decide +kernel
theorem dL_comes_136 : decode cL_comes 136 = .ok (.iload 4, 2) := by decide +kernel
theorem dL_comes_138 : decode cL_comes 138 = .ok (.aload_n 1, 1) := by decide +kernel
theorem dL_comes_139 : decode cL_comes 139 = .ok (.iconst 4, 1) := by decide +kernel
theorem dL_comes_140 : decode cL_comes 140 = .ok (.iload 4, 2) := by decide +kernel
theorem dL_comes_142 : decode cL_comes 142 = .ok (.imul, 1) := by decide +kernel
theorem dL_comes_143 : decode cL_comes 143 = .ok (.iaload, 1) := by decide +kernel
theorem dL_comes_144 : decode cL_comes 144 = .ok (.invokestatic 82, 3) := by decide +kernel
theorem dL_comes_147 : decode cL_comes 147 = .ok (.iload 7, 2) := by decide +kernel
theorem dL_comes_149 : decode cL_comes 149 = .ok (.ifCond .lt 155, 3) := by decide +kernel
theorem dL_comes_152 : decode cL_comes 152 = .ok (.aload_n 0, 1) := by decide +kernel
theorem dL_comes_153 : decode cL_comes 153 = .ok (.aload_n 1, 1) := by decide +kernel
theorem dL_comes_154 : decode cL_comes 154 = .ok (.iload 7, 2) := by decide +kernel
theorem dL_comes_156 : decode cL_comes 156 = .ok (.invokestatic 85, 3) := by decide +kernel
theorem dL_comes_159 : decode cL_comes 159 = .ok (.istore 8, 2) := by decide +kernel
theorem dL_comes_161 : decode cL_comes 161 = .ok (.aload_n 1, 1) := by decide +kernel
theorem dL_comes_162 : decode cL_comes 162 = .ok (.iconst 4, 1) := by decide +kernel
theorem dL_comes_163 : decode cL_comes 163 = .ok (.iload 7, 2) := by decide +kernel
theorem dL_comes_165 : decode cL_comes 165 = .ok (.imul, 1) := by decide +kernel
theorem dL_comes_166 : decode cL_comes 166 = .ok (.iaload, 1) := by decide +kernel
theorem dL_comes_167 : decode cL_comes 167 = .ok (.iconst 1, 1) := by decide +kernel
theorem dL_comes_168 : decode cL_comes 168 = .ok (.iadd, 1) := by decide +kernel
theorem dL_comes_169 : decode cL_comes 169 = .ok (.bipush 24, 2) := by decide +kernel
theorem dL_comes_171 : decode cL_comes 171 = .ok (.irem, 1) := by decide +kernel
theorem dL_comes_172 : decode cL_comes 172 = .ok (.istore 9, 2) := by decide +kernel
theorem dL_comes_174 : decode cL_comes 174 = .ok (.aload_n 0, 1) := by decide +kernel
theorem dL_comes_175 : decode cL_comes 175 = .ok (.aload_n 1, 1) := by decide +kernel
theorem dL_comes_176 : decode cL_comes 176 = .ok (.iload 9, 2) := by decide +kernel
theorem dL_comes_178 : decode cL_comes 178 = .ok (.invokestatic 74, 3) := by decide +kernel
theorem dL_comes_181 : decode cL_comes 181 = .ok (.istore 10, 2) := by decide +kernel
theorem dL_comes_183 : decode cL_comes 183 = .ok (.iload 8, 2) := by decide +kernel
theorem dL_comes_185 : decode cL_comes 185 = .ok (.ifCond .ge 55, 3) := by decide +kernel
theorem dL_comes_188 : decode cL_comes 188 = .ok (.aload_n 0, 1) := by decide +kernel
theorem dL_comes_189 : decode cL_comes 189 = .ok (.iconst 1, 1) := by decide +kernel
theorem dL_comes_190 : decode cL_comes 190 = .ok (.iaload, 1) := by decide +kernel
theorem dL_comes_191 : decode cL_comes 191 = .ok (.iload 9, 2) := by decide +kernel
theorem dL_comes_193 : decode cL_comes 193 = .ok (.ishr, 1) := by decide +kernel
theorem dL_comes_194 : decode cL_comes 194 = .ok (.iconst 1, 1) := by decide +kernel
theorem dL_comes_195 : decode cL_comes 195 = .ok (.iand, 1) := by decide +kernel
theorem dL_comes_196 : decode cL_comes 196 = .ok (.ifCond .ne 44, 3) := by decide +kernel
theorem dL_comes_199 : decode cL_comes 199 = .ok (.iload 10, 2) := by decide +kernel
theorem dL_comes_201 : decode cL_comes 201 = .ok (.ifCond .lt 39, 3) := by decide +kernel
theorem dL_comes_204 : decode cL_comes 204 = .ok (.aload_n 1, 1) := by decide +kernel
theorem dL_comes_205 : decode cL_comes 205 = .ok (.iconst 4, 1) := by decide +kernel
theorem dL_comes_206 : decode cL_comes 206 = .ok (.iload 10, 2) := by decide +kernel
theorem dL_comes_208 : decode cL_comes 208 = .ok (.imul, 1) := by decide +kernel
theorem dL_comes_209 : decode cL_comes 209 = .ok (.iconst 1, 1) := by decide +kernel
theorem dL_comes_210 : decode cL_comes 210 = .ok (.iadd, 1) := by decide +kernel
theorem dL_comes_211 : decode cL_comes 211 = .ok (.iaload, 1) := by decide +kernel
theorem dL_comes_212 : decode cL_comes 212 = .ok (.aload_n 1, 1) := by decide +kernel
theorem dL_comes_213 : decode cL_comes 213 = .ok (.iconst 4, 1) := by decide +kernel
theorem dL_comes_214 : decode cL_comes 214 = .ok (.iload 7, 2) := by decide +kernel
theorem dL_comes_216 : decode cL_comes 216 = .ok (.imul, 1) := by decide +kernel
theorem dL_comes_217 : decode cL_comes 217 = .ok (.iconst 1, 1) := by decide +kernel
theorem dL_comes_218 : decode cL_comes 218 = .ok (.iadd, 1) := by decide +kernel
theorem dL_comes_219 : decode cL_comes 219 = .ok (.iaload, 1) := by decide +kernel
theorem dL_comes_220 : decode cL_comes 220 = .ok (.if_icmp .ge 20, 3) := by decide +kernel
theorem dL_comes_223 : decode cL_comes 223 = .ok (.aload_n 0, 1) := by decide +kernel
theorem dL_comes_224 : decode cL_comes 224 = .ok (.bipush 6, 2) := by decide +kernel
theorem dL_comes_226 : decode cL_comes 226 = .ok (.iaload, 1) := by decide +kernel
theorem dL_comes_227 : decode cL_comes 227 = .ok (.iload 6, 2) := by decide +kernel
theorem dL_comes_229 : decode cL_comes 229 = .ok (.isub, 1) := by decide +kernel
theorem dL_comes_230 : decode cL_comes 230 = .ok (.aload_n 0, 1) := by decide +kernel
theorem dL_comes_231 : decode cL_comes 231 = .ok (.iconst 5, 1) := by decide +kernel
theorem dL_comes_232 : decode cL_comes 232 = .ok (.iaload, 1) := by decide +kernel
theorem dL_comes_233 : decode cL_comes 233 = .ok (.if_icmp .ge 7, 3) := by decide +kernel
theorem dL_comes_236 : decode cL_comes 236 = .ok (.iconst 1, 1) := by decide +kernel
theorem dL_comes_237 : decode cL_comes 237 = .ok (.goto 4, 3) := by decide +kernel
theorem dL_comes_240 : decode cL_comes 240 = .ok (.iconst 0, 1) := by decide +kernel
theorem dL_comes_241 : decode cL_comes 241 = .ok (.istore 11, 2) := by decide +kernel
theorem dL_comes_243 : decode cL_comes 243 = .ok (.iload 11, 2) := by decide +kernel
theorem dL_comes_245 : decode cL_comes 245 = .ok (.ifCond .eq 13, 3) := by decide +kernel
theorem dL_comes_248 : decode cL_comes 248 = .ok (.aload_n 0, 1) := by decide +kernel
theorem dL_comes_249 : decode cL_comes 249 = .ok (.aload_n 1, 1) := by decide +kernel
theorem dL_comes_250 : decode cL_comes 250 = .ok (.aload_n 2, 1) := by decide +kernel
theorem dL_comes_251 : decode cL_comes 251 = .ok (.iload 7, 2) := by decide +kernel
theorem dL_comes_253 : decode cL_comes 253 = .ok (.iload 10, 2) := by decide +kernel
theorem dL_comes_255 : decode cL_comes 255 = .ok (.invokestatic 78, 3) := by decide +kernel
theorem dL_comes_258 : decode cL_comes 258 = .ok (.aload_n 0, 1) := by decide +kernel
theorem dL_comes_259 : decode cL_comes 259 = .ok (.aload_n 1, 1) := by decide +kernel
theorem dL_comes_260 : decode cL_comes 260 = .ok (.aload_n 3, 1) := by decide +kernel
theorem dL_comes_261 : decode cL_comes 261 = .ok (.iload 7, 2) := by decide +kernel
theorem dL_comes_263 : decode cL_comes 263 = .ok (.iload 8, 2) := by decide +kernel
theorem dL_comes_265 : decode cL_comes 265 = .ok (.ifCond .lt 8, 3) := by decide +kernel
theorem dL_comes_268 : decode cL_comes 268 = .ok (.iload 8, 2) := by decide +kernel
theorem dL_comes_270 : decode cL_comes 270 = .ok (.goto 15, 3) := by decide +kernel
theorem dL_comes_273 : decode cL_comes 273 = .ok (.iload 11, 2) := by decide +kernel
theorem dL_comes_275 : decode cL_comes 275 = .ok (.ifCond .eq 8, 3) := by decide +kernel
theorem dL_comes_278 : decode cL_comes 278 = .ok (.iload 9, 2) := by decide +kernel
theorem dL_comes_280 : decode cL_comes 280 = .ok (.goto 5, 3) := by decide +kernel
theorem dL_comes_283 : decode cL_comes 283 = .ok (.bipush 24, 2) := by decide +kernel
theorem dL_comes_285 : decode cL_comes 285 = .ok (.invokestatic 82, 3) := by decide +kernel
theorem dL_comes_288 : decode cL_comes 288 = .ok (.iload 11, 2) := by decide +kernel
theorem dL_comes_290 : decode cL_comes 290 = .ok (.ifCond .eq 8, 3) := by decide +kernel
theorem dL_comes_293 : decode cL_comes 293 = .ok (.iload 10, 2) := by decide +kernel
theorem dL_comes_295 : decode cL_comes 295 = .ok (.goto 4, 3) := by decide +kernel
theorem dL_comes_298 : decode cL_comes 298 = .ok (.iconst (-1), 1) := by decide +kernel
theorem dL_comes_299 : decode cL_comes 299 = .ok (.istore 7, 2) := by decide +kernel
theorem dL_comes_301 : decode cL_comes 301 = .ok (.goto (-154), 3) := by decide +kernel
theorem dL_comes_304 : decode cL_comes 304 = .ok (.aload_n 0, 1) := by decide +kernel
theorem dL_comes_305 : decode cL_comes 305 = .ok (.bipush 6, 2) := by decide +kernel
theorem dL_comes_307 : decode cL_comes 307 = .ok (.iaload, 1) := by decide +kernel
theorem dL_comes_308 : decode cL_comes 308 = .ok (.iload 6, 2) := by decide +kernel
theorem dL_comes_310 : decode cL_comes 310 = .ok (.isub, 1) := by decide +kernel
theorem dL_comes_311 : decode cL_comes 311 = .ok (.ireturn, 1) := by decide +kernel
set_option maxRecDepth 20000 in
theorem ggL_many_L_is : GoodIn wsL_many wsL_is := goodIn_r _ [4] (by decide +kernel) (by decide +kernel)
set_option maxRecDepth 20000 in
theorem gL_many_L_is : GoodIn wsL_many (va_wsS RL 63 yL_is wsL_is) := goodIn_app (goodIn_of _ (by decide +kernel)) ggL_many_L_is
theorem dL_many_0 : decode cL_many 0 = .ok (.iconst 0, 1) := by decide +kernel
theorem dL_many_1 : decode cL_many 1 = .ok (.istore 4, 2) := by decide +kernel
theorem dL_many_3 : decode cL_many 3 = .ok (.iconst 0, 1) := by decide +kernel
theorem dL_many_4 : decode cL_many 4 = .ok (.istore 5, 2) := by decide +kernel
theorem dL_many_6 : decode cL_many 6 = .ok (.iload 5, 2) := by decide +kernel
theorem dL_many_8 : decode cL_many 8 = .ok (.bipush 16, 2) := by decide +kernel
theorem dL_many_10 : decode cL_many 10 = .ok (.if_icmp .ge 52, 3) := by decide +kernel
theorem dL_many_13 : decode cL_many 13 = .ok (.iload 4, 2) := by decide +kernel
theorem dL_many_15 : decode cL_many 15 = .ok (.aload_n 0, 1) := by decide +kernel
theorem dL_many_16 : decode cL_many 16 = .ok (.iload 5, 2) := by decide +kernel
theorem dL_many_18 : decode cL_many 18 = .ok (.invokestatic 63, 3) := by decide +kernel
theorem dL_many_21 : decode cL_many 21 = .ok (.ifCond .eq 31, 3) := by decide +kernel
theorem dL_many_24 : decode cL_many 24 = .ok (.aload_n 1, 1) := by decide +kernel
theorem dL_many_25 : decode cL_many 25 = .ok (.iconst 4, 1) := by decide +kernel
theorem dL_many_26 : decode cL_many 26 = .ok (.iload 5, 2) := by decide +kernel
theorem dL_many_28 : decode cL_many 28 = .ok (.imul, 1) := by decide +kernel
theorem dL_many_29 : decode cL_many 29 = .ok (.iconst 2, 1) := by decide +kernel
theorem dL_many_30 : decode cL_many 30 = .ok (.iadd, 1) := by decide +kernel
theorem dL_many_31 : decode cL_many 31 = .ok (.iaload, 1) := by decide +kernel
theorem dL_many_32 : decode cL_many 32 = .ok (.iload_n 2, 1) := by decide +kernel
theorem dL_many_33 : decode cL_many 33 = .ok (.if_icmp .lt 19, 3) := by decide +kernel
theorem dL_many_36 : decode cL_many 36 = .ok (.aload_n 1, 1) := by decide +kernel
theorem dL_many_37 : decode cL_many 37 = .ok (.iconst 4, 1) := by decide +kernel
theorem dL_many_38 : decode cL_many 38 = .ok (.iload 5, 2) := by decide +kernel
theorem dL_many_40 : decode cL_many 40 = .ok (.imul, 1) := by decide +kernel
theorem dL_many_41 : decode cL_many 41 = .ok (.iconst 2, 1) := by decide +kernel
theorem dL_many_42 : decode cL_many 42 = .ok (.iadd, 1) := by decide +kernel
theorem dL_many_43 : decode cL_many 43 = .ok (.iaload, 1) := by decide +kernel
theorem dL_many_44 : decode cL_many 44 = .ok (.iload_n 3, 1) := by decide +kernel
theorem dL_many_45 : decode cL_many 45 = .ok (.if_icmp .gt 7, 3) := by decide +kernel
theorem dL_many_48 : decode cL_many 48 = .ok (.iconst 1, 1) := by decide +kernel
theorem dL_many_49 : decode cL_many 49 = .ok (.goto 4, 3) := by decide +kernel
theorem dL_many_52 : decode cL_many 52 = .ok (.iconst 0, 1) := by decide +kernel
theorem dL_many_53 : decode cL_many 53 = .ok (.iadd, 1) := by decide +kernel
theorem dL_many_54 : decode cL_many 54 = .ok (.istore 4, 2) := by decide +kernel
theorem dL_many_56 : decode cL_many 56 = .ok (.iinc 5 1, 3) := by decide +kernel
theorem dL_many_59 : decode cL_many 59 = .ok (.goto (-53), 3) := by decide +kernel
theorem dL_many_62 : decode cL_many 62 = .ok (.iload 4, 2) := by decide +kernel
theorem dL_many_64 : decode cL_many 64 = .ok (.ireturn, 1) := by decide +kernel
theorem dL_copy_0 : decode cL_copy 0 = .ok (.iconst 0, 1) := by decide +kernel
theorem dL_copy_1 : decode cL_copy 1 = .ok (.istore_n 2, 1) := by decide +kernel
theorem dL_copy_2 : decode cL_copy 2 = .ok (.iload_n 2, 1) := by decide +kernel
theorem dL_copy_3 : decode cL_copy 3 = .ok (.aload_n 0, 1) := by decide +kernel
theorem dL_copy_4 : decode cL_copy 4 = .ok (.arraylength, 1) := by decide +kernel
theorem dL_copy_5 : decode cL_copy 5 = .ok (.if_icmp .ge 15, 3) := by decide +kernel
theorem dL_copy_8 : decode cL_copy 8 = .ok (.aload_n 1, 1) := by decide +kernel
theorem dL_copy_9 : decode cL_copy 9 = .ok (.iload_n 2, 1) := by decide +kernel
theorem dL_copy_10 : decode cL_copy 10 = .ok (.aload_n 0, 1) := by decide +kernel
theorem dL_copy_11 : decode cL_copy 11 = .ok (.iload_n 2, 1) := by decide +kernel
theorem dL_copy_12 : decode cL_copy 12 = .ok (.iaload, 1) := by decide +kernel
theorem dL_copy_13 : decode cL_copy 13 = .ok (.iastore, 1) := by decide +kernel
theorem dL_copy_14 : decode cL_copy 14 = .ok (.iinc 2 1, 3) := by decide +kernel
theorem dL_copy_17 : decode cL_copy 17 = .ok (.goto (-15), 3) := by decide +kernel
theorem dL_copy_20 : decode cL_copy 20 = .ok (.return_, 1) := by decide +kernel
