theorem dL_isSo_0 : decode cL_isSo 0 = .ok (.iconst 0, 1) := by decide +kernel
theorem dL_isSo_1 : decode cL_isSo 1 = .ok (.istore 5, 2) := by decide +kernel
theorem dL_isSo_3 : decode cL_isSo 3 = .ok (.iconst 0, 1) := by decide +kernel
theorem dL_isSo_4 : decode cL_isSo 4 = .ok (.istore 6, 2) := by decide +kernel
theorem dL_isSo_6 : decode cL_isSo 6 = .ok (.iconst 0, 1) := by decide +kernel
theorem dL_isSo_7 : decode cL_isSo 7 = .ok (.istore 7, 2) := by decide +kernel
theorem dL_isSo_9 : decode cL_isSo 9 = .ok (.iconst 0, 1) := by decide +kernel
theorem dL_isSo_10 : decode cL_isSo 10 = .ok (.istore 8, 2) := by decide +kernel
theorem dL_isSo_12 : decode cL_isSo 12 = .ok (.iconst (-1), 1) := by decide +kernel
theorem dL_isSo_13 : decode cL_isSo 13 = .ok (.istore 9, 2) := by decide +kernel
theorem dL_isSo_15 : decode cL_isSo 15 = .ok (.iconst 0, 1) := by decide +kernel
theorem dL_isSo_16 : decode cL_isSo 16 = .ok (.istore 10, 2) := by decide +kernel
theorem dL_isSo_18 : decode cL_isSo 18 = .ok (.iload 10, 2) := by decide +kernel
theorem dL_isSo_20 : decode cL_isSo 20 = .ok (.bipush 16, 2) := by decide +kernel
theorem dL_isSo_22 : decode cL_isSo 22 = .ok (.if_icmp .ge 144, 3) := by decide +kernel
theorem dL_isSo_25 : decode cL_isSo 25 = .ok (.aload_n 1, 1) := by decide +kernel
theorem dL_isSo_26 : decode cL_isSo 26 = .ok (.iload 10, 2) := by decide +kernel
theorem dL_isSo_28 : decode cL_isSo 28 = .ok (.invokestatic 63, 3) := by decide +kernel
theorem dL_isSo_31 : decode cL_isSo 31 = .ok (.ifCond .ne 17, 3) := by decide +kernel
theorem dL_isSo_34 : decode cL_isSo 34 = .ok (.aload_n 0, 1) := by decide +kernel
theorem dL_isSo_35 : decode cL_isSo 35 = .ok (.iload 10, 2) := by decide +kernel
theorem dL_isSo_37 : decode cL_isSo 37 = .ok (.iconst 0, 1) := by decide +kernel
theorem dL_isSo_38 : decode cL_isSo 38 = .ok (.invokestatic 109, 3) := by decide +kernel
theorem dL_isSo_41 : decode cL_isSo 41 = .ok (.bipush (-31), 2) := by decide +kernel
theorem dL_isSo_43 : decode cL_isSo 43 = .ok (.if_icmp .eq 117, 3) := by decide +kernel
theorem dL_isSo_46 : decode cL_isSo 46 = .ok (.iconst 0, 1) := by decide +kernel
theorem dL_isSo_47 : decode cL_isSo 47 = .ok (.ireturn, 1) := by decide +kernel
theorem dL_isSo_48 : decode cL_isSo 48 = .ok (.iconst 0, 1) := by decide +kernel
theorem dL_isSo_49 : decode cL_isSo 49 = .ok (.istore 11, 2) := by decide +kernel
theorem dL_isSo_51 : decode cL_isSo 51 = .ok (.iload 11, 2) := by decide +kernel
theorem dL_isSo_53 : decode cL_isSo 53 = .ok (.iconst 4, 1) := by decide +kernel
theorem dL_isSo_54 : decode cL_isSo 54 = .ok (.if_icmp .ge 53, 3) := by decide +kernel
theorem dL_isSo_57 : decode cL_isSo 57 = .ok (.aload_n 0, 1) := by decide +kernel
theorem dL_isSo_58 : decode cL_isSo 58 = .ok (.iload 10, 2) := by decide +kernel
theorem dL_isSo_60 : decode cL_isSo 60 = .ok (.iload 11, 2) := by decide +kernel
theorem dL_isSo_62 : decode cL_isSo 62 = .ok (.invokevirtual 47, 3) := by decide +kernel
theorem dL_isSo_65 : decode cL_isSo 65 = .ok (.aload_n 2, 1) := by decide +kernel
theorem dL_isSo_66 : decode cL_isSo 66 = .ok (.iconst 4, 1) := by decide +kernel
theorem dL_isSo_67 : decode cL_isSo 67 = .ok (.iload 10, 2) := by decide +kernel
theorem dL_isSo_69 : decode cL_isSo 69 = .ok (.imul, 1) := by decide +kernel
theorem dL_isSo_70 : decode cL_isSo 70 = .ok (.iload 11, 2) := by decide +kernel
theorem dL_isSo_72 : decode cL_isSo 72 = .ok (.iadd, 1) := by decide +kernel
theorem dL_isSo_73 : decode cL_isSo 73 = .ok (.iaload, 1) := by decide +kernel
theorem dL_isSo_74 : decode cL_isSo 74 = .ok (.if_icmp .ne 25, 3) := by decide +kernel
theorem dL_isSo_77 : decode cL_isSo 77 = .ok (.aload_n 0, 1) := by decide +kernel
theorem dL_isSo_78 : decode cL_isSo 78 = .ok (.iload 10, 2) := by decide +kernel
theorem dL_isSo_80 : decode cL_isSo 80 = .ok (.iconst 4, 1) := by decide +kernel
theorem dL_isSo_81 : decode cL_isSo 81 = .ok (.iload 11, 2) := by decide +kernel
theorem dL_isSo_83 : decode cL_isSo 83 = .ok (.iadd, 1) := by decide +kernel
theorem dL_isSo_84 : decode cL_isSo 84 = .ok (.invokevirtual 47, 3) := by decide +kernel
theorem dL_isSo_87 : decode cL_isSo 87 = .ok (.aload_n 3, 1) := by decide +kernel
theorem dL_isSo_88 : decode cL_isSo 88 = .ok (.iconst 4, 1) := by decide +kernel
theorem dL_isSo_89 : decode cL_isSo 89 = .ok (.iload 10, 2) := by decide +kernel
theorem dL_isSo_91 : decode cL_isSo 91 = .ok (.imul, 1) := by decide +kernel
theorem dL_isSo_92 : decode cL_isSo 92 = .ok (.iload 11, 2) := by decide +kernel
theorem dL_isSo_94 : decode cL_isSo 94 = .ok (.iadd, 1) := by decide +kernel
theorem dL_isSo_95 : decode cL_isSo 95 = .ok (.iaload, 1) := by decide +kernel
theorem dL_isSo_96 : decode cL_isSo 96 = .ok (.if_icmp .eq 5, 3) := by decide +kernel
theorem dL_isSo_99 : decode cL_isSo 99 = .ok (.iconst 0, 1) := by decide +kernel
theorem dL_isSo_100 : decode cL_isSo 100 = .ok (.ireturn, 1) := by decide +kernel
theorem dL_isSo_101 : decode cL_isSo 101 = .ok (.iinc 11 1, 3) := by decide +kernel
theorem dL_isSo_104 : decode cL_isSo 104 = .ok (.goto (-53), 3) := by decide +kernel
theorem dL_isSo_107 : decode cL_isSo 107 = .ok (.iinc 5 1, 3) := by decide +kernel
theorem dL_isSo_110 : decode cL_isSo 110 = .ok (.iload 6, 2) := by decide +kernel
theorem dL_isSo_112 : decode cL_isSo 112 = .ok (.aload_n 2, 1) := by decide +kernel
theorem dL_isSo_113 : decode cL_isSo 113 = .ok (.iconst 4, 1) := by decide +kernel
theorem dL_isSo_114 : decode cL_isSo 114 = .ok (.iload 10, 2) := by decide +kernel
theorem dL_isSo_116 : decode cL_isSo 116 = .ok (.imul, 1) := by decide +kernel
theorem dL_isSo_117 : decode cL_isSo 117 = .ok (.iconst 3, 1) := by decide +kernel
theorem dL_isSo_118 : decode cL_isSo 118 = .ok (.iadd, 1) := by decide +kernel
theorem dL_isSo_119 : decode cL_isSo 119 = .ok (.iaload, 1) := by decide +kernel
theorem dL_isSo_120 : decode cL_isSo 120 = .ok (.iload 10, 2) := by decide +kernel
theorem dL_isSo_122 : decode cL_isSo 122 = .ok (.if_icmp .le 7, 3) := by decide +kernel
theorem dL_isSo_125 : decode cL_isSo 125 = .ok (.iconst 1, 1) := by decide +kernel
theorem dL_isSo_126 : decode cL_isSo 126 = .ok (.goto 4, 3) := by decide +kernel
theorem dL_isSo_129 : decode cL_isSo 129 = .ok (.iconst 0, 1) := by decide +kernel
theorem dL_isSo_130 : decode cL_isSo 130 = .ok (.iadd, 1) := by decide +kernel
theorem dL_isSo_131 : decode cL_isSo 131 = .ok (.istore 6, 2) := by decide +kernel
theorem dL_isSo_133 : decode cL_isSo 133 = .ok (.iload 7, 2) := by decide +kernel
theorem dL_isSo_135 : decode cL_isSo 135 = .ok (.aload_n 2, 1) := by decide +kernel
theorem dL_isSo_136 : decode cL_isSo 136 = .ok (.iconst 4, 1) := by decide +kernel
theorem dL_isSo_137 : decode cL_isSo 137 = .ok (.iload 10, 2) := by decide +kernel
theorem dL_isSo_139 : decode cL_isSo 139 = .ok (.imul, 1) := by decide +kernel
theorem dL_isSo_140 : decode cL_isSo 140 = .ok (.iaload, 1) := by decide +kernel
